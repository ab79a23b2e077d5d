import java.util.ArrayList;
import java.util.List;

/**
 * "What is answered so changes nothing." Of two objects that come the same way, one
 * is asked what it must refuse; then both must answer alike, whatever they are asked.
 */
public final class RefusedTest {
    private static final int FAR = Integer.MAX_VALUE, FAR_BELOW = Integer.MIN_VALUE;

    /** One call, and which number refuses it. */
    interface Refused {
        long ask(BackHouse x);
    }

    public static void main(String[] args) {
        Due.sentence("What is answered so changes nothing.");
        everyRefusalByItself();
        allRefusalsInARow();
        atTheEnd();
        answersThatOnlyTell();
        Due.close();
    }

    /** On the way with all that an object may hold: things, changes to do again, a drive, an image, rows, a tape. */
    private static BackHouse onTheWay() {
        BackHouse x = Houses.withThings(112, 0, 212, 2, 6, 3, 312, 5);
        x.mend(0, 4, 6);
        x.mend(1, 3, 20);
        x.mend(2, 5, 7);
        x.mend(3, 3, 99);
        x.undo();
        Houses.law(x, "p+n*2+k");
        x.feed('n');
        x.feed('+');
        x.lock(4);
        x.on();
        x.image();
        x.on();
        for (int kind = 0; kind < 8; kind++) {
            x.body(kind);
        }
        x.act(5, 3, 9);
        Houses.row(x, 0, 0, 1, 5, 2, 6, 3);
        Houses.row(x, 1, 2, 1, 2, 3);
        x.keep(2, 5);
        Houses.row(x, 3, 0, 0, 12, 7, 0, 0, 13, 0, 0);
        return x;
    }

    private static List<Refused> refusals() {
        List<Refused> all = new ArrayList<>();
        for (int v : new int[] {-1, 600, 13, FAR, FAR_BELOW}) {
            all.add(x -> x.thing(v, 0));
        }
        for (int v : new int[] {-1, 7, FAR, FAR_BELOW}) {
            all.add(x -> x.thing(0, v));
            all.add(x -> x.things(v, 0, 1));
        }
        all.add(x -> x.things(0, 0, 9));
        all.add(x -> x.things(0, 0, 0));
        all.add(x -> x.things(1, 0, 1));
        all.add(x -> x.things(2, 0, 1));
        for (int what = -1; what <= 8; what++) {
            int of = what;
            all.add(x -> x.mend(0, of, -1));
            all.add(x -> x.mend(0, of, 256));
            all.add(x -> x.mend(8, of, 1));
            all.add(x -> x.mend(-1, of, 1));
            all.add(x -> x.of(8, of));
        }
        all.add(x -> x.feed(-1));
        all.add(x -> x.feed(256));
        for (int v : new int[] {-1, 16, FAR, FAR_BELOW}) {
            all.add(x -> x.drive(v, 0));
            all.add(x -> x.drive(1, v));
            all.add(x -> x.going(v, 0, 0));
            all.add(x -> x.going(1, 0, v));
            all.add(x -> x.aloud(v, 0));
            all.add(x -> x.aloud(1, v));
            all.add(x -> x.who(v));
            all.add(x -> x.onWith(v));
            all.add(x -> x.judge(0, v));
            all.add(x -> x.judge(v, 0));
            all.add(x -> x.which(v, 0));
            all.add(x -> x.which(0, v));
            all.add(x -> x.first(v));
            all.add(x -> x.chain(v));
            all.add(x -> x.drawn(1, 1, v));
            all.add(x -> x.led(v));
            all.add(x -> x.body(v));
            all.add(x -> x.trace(v));
            all.add(x -> x.keep(v, 0));
            all.add(x -> x.keep(v, -1));
            all.add(x -> x.row(v, 0, 1));
            all.add(x -> x.row(0, v, 1));
            all.add(x -> x.put(v, 0, 9));
            all.add(x -> x.put(0, v, 9));
            all.add(x -> x.shift(v, 0, 0, 0, 1));
            all.add(x -> x.shift(0, 0, v, 0, 1));
            all.add(x -> x.shift(0, v, 0, 0, 1));
            all.add(x -> x.shift(0, 0, 0, v, 1));
            all.add(x -> x.taken(v, 0));
            all.add(x -> x.taken(2, v));
            all.add(x -> x.count(v));
        }
        all.add(x -> x.going(1, 9, 0));
        all.add(x -> x.drawn(1, 0, 0));
        all.add(x -> x.drawn(1, 31, 0));
        all.add(x -> x.judge(4, 0));
        all.add(x -> x.judge(1, 0));
        all.add(x -> x.which(5, 0));
        all.add(x -> x.which(2, 0));
        all.add(x -> x.lock(9));
        all.add(x -> x.keep(0, 8));
        all.add(x -> x.keep(0, -2));
        all.add(x -> x.row(0, 0, 61));
        all.add(x -> x.row(0, 0, -1));
        all.add(x -> x.row(5, 3, -1));
        all.add(x -> x.put(4, 0, 9));
        all.add(x -> x.put(2, 0, 9));
        all.add(x -> x.put(1, 3, 9));
        all.add(x -> x.shift(0, 0, 1, 0, 1));
        all.add(x -> x.shift(0, 0, 2, 0, 1));
        all.add(x -> x.shift(0, 0, 4, 0, 1));
        all.add(x -> x.shift(0, 0, 0, 1, 5));
        all.add(x -> x.shift(0, 1, 0, 0, -1));
        all.add(x -> x.taken(4, 0));
        all.add(x -> x.taken(2, 4));
        all.add(x -> x.taken(0, 0));
        return all;
    }

    /** Asks an object all that it may tell, and then what is only seen by going on with it. */
    private static long[] allOf(BackHouse x) {
        List<Long> told = new ArrayList<>();
        for (int what = 0; what <= 7; what++) {
            for (int number = 0; number < 8; number++) {
                told.add((long) x.of(number, what));
            }
            told.add((long) x.led(what));
            told.add((long) x.trace(what));
            told.add((long) x.count(what));
            told.add((long) x.taken(what, 0));
            for (int i = 0; i < 9; i++) {
                told.add(x.element(what, i));
            }
        }
        for (int what = 0; what <= 4; what++) {
            told.add((long) x.drive(15, what));
        }
        told.add(x.mean(0));
        goOn(x, told);
        return told.stream().mapToLong(Long::longValue).toArray();
    }

    private static void goOn(BackHouse x, List<Long> told) {
        told.add((long) x.redo());
        told.add((long) x.of(3, 3));
        for (int i = 0; i < 6; i++) {
            told.add((long) x.undo());
        }
        told.add((long) x.drive(7, 4));
        told.add((long) x.on());
        told.add((long) x.led(0));
        told.add((long) x.back());
        for (int i = 0; i < 8; i++) {
            told.add((long) x.on());
            told.add((long) x.led(0));
            told.add((long) x.led(3));
        }
        told.add((long) x.led(5));
        told.add((long) x.feed('9'));
        told.add((long) x.law());
        told.add((long) x.drive(1, 0));
        told.add((long) x.thing(0, 0));
        told.add((long) x.body(0));
    }

    private static void alike(String of, BackHouse x, long[] want) {
        long[] got = allOf(x);
        Due.due(of + ": how many answers", got.length, want.length);
        for (int i = 0; i < want.length && i < got.length; i++) {
            Due.due(of + ": answer " + i, got[i], want[i]);
        }
    }

    private static void refused(String of, long answer) {
        boolean so = answer == -1 || answer == -2 || answer == -3 || answer == -5 || answer <= -11 && answer >= -14;
        Due.due(of + " is refused, " + answer, so ? 1 : 0, 1);
    }

    private static void everyRefusalByItself() {
        List<Refused> all = refusals();
        long[] want = allOf(onTheWay());
        for (int i = 0; i < all.size(); i++) {
            BackHouse x = onTheWay();
            refused("refusal " + i, all.get(i).ask(x));
            alike("behind refusal " + i, x, want);
        }
    }

    private static void allRefusalsInARow() {
        BackHouse x = onTheWay();
        for (Refused refusal : refusals()) {
            refusal.ask(x);
        }
        alike("behind all refusals", x, allOf(onTheWay()));
    }

    /** Where all is full, and where there is none: no drive, no image, nothing to undo or to do again. */
    private static BackHouse full() {
        BackHouse x = Houses.withThings(12, 0, 12, 1, 12, 2, 12, 3, 12, 4, 12, 5, 12, 6, 6, 0);
        for (int i = 0; i < 120; i++) {
            x.feed('n');
        }
        for (int i = 0; i < 50; i++) {
            x.body(i % 8);
        }
        Houses.row(x, 0, 0, 1, 1, 1, 1);
        return x;
    }

    private static void atTheEnd() {
        Refused[] all = {x -> x.thing(0, 0), x -> x.feed('n'), x -> x.body(3), x -> x.on(), x -> x.back(), x -> x.undo(),
            x -> x.redo(), x -> x.thing(13, 0), x -> x.feed(-1), x -> x.body(8)};
        long[] want = allOf(full());
        for (int i = 0; i < all.length; i++) {
            BackHouse x = full();
            refused("at the end, " + i, all[i].ask(x));
            alike("at the end, behind " + i, x, want);
        }
        BackHouse x = full();
        Due.due("no more things from a row", x.things(0, 0, 1), 0);
        alike("at the end, behind things(0, 0, 1)", x, want);
    }

    private static void answersThatOnlyTell() {
        Due.sentence("drives in thought");
        BackHouse x = onTheWay();
        for (int told = 0; told < 16; told++) {
            x.drive(told, told % 5);
            x.going(told, 0, told % 3);
            x.aloud(told, told % 6);
            x.who(told);
            x.onWith(told);
            x.judge(0, told);
        }
        for (int part = 0; part <= 2; part++) {
            x.mean(part);
            x.likely(part - 1, 0);
            x.doorstep(part);
            x.list(part, 2);
            x.which(0, part);
            x.first(part);
            x.chain(part);
            x.drawn(5, 30, part);
        }
        alike("behind drives in thought", x, allOf(onTheWay()));
        Due.sentence("shelves");
        BackHouse y = onTheWay();
        y.element(6, 0);
        y.element(0, 60);
        y.mean(-1);
        y.list(4, 0);
        y.doorstep(3);
        y.likely(9, 0);
        y.things(4, 0, 1);
        y.things(0, -1, 1);
        y.things(3, 0, 8);
        y.shift(0, 0, 0, 0, 0);
        alike("behind answers that only tell", y, allOf(onTheWay()));
    }
}
