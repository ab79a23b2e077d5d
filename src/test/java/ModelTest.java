import java.util.ArrayDeque;
import java.util.ArrayList;
import java.util.Deque;
import java.util.List;
import java.util.Random;

/** Random runs of calls, each answer held against the model's. The seeds are fixed. */
public final class ModelTest {
    /** A step makes many calls at times, so the last one begins well ahead of the 512th call. */
    private static final int RUNS = 600, LAST_BEGINS = 380;

    private final Random random;
    private final BackHouse x = new BackHouse();
    private final Model model = new Model();
    private final List<int[]> done = new ArrayList<>();
    private final List<int[]> undone = new ArrayList<>();
    private final Object[] shelves = new Object[6];
    private final int[] sorts = new int[6];
    private final List<Integer> bodies = new ArrayList<>();
    private String tape = "";
    private Model.Trip trip;
    private int stop = -2;
    private int overs;
    private int costs;
    private Model.Trip imageTrip;
    private int[] image;
    private int unheldCalls;

    private ModelTest(long seed) {
        random = new Random(seed);
        trip = model.new Trip(0);
    }

    public static void main(String[] args) {
        for (int run = 0; run < RUNS; run++) {
            ModelTest test = new ModelTest(run);
            int before = Due.held();
            for (int calls = 0; calls < LAST_BEGINS; calls = Due.held() - before + test.unheldCalls) {
                test.call();
            }
        }
        Due.close();
    }

    private int upTo(int bound) {
        return random.nextInt(bound);
    }

    /** Mostly from 0 to most, now and then just or far outside. */
    private int near(int most) {
        switch (upTo(24)) {
            case 0: return -1;
            case 1: return most + 1;
            case 2: return upTo(2) == 0 ? random.nextInt() : upTo(2) == 0 ? Integer.MAX_VALUE : Integer.MIN_VALUE;
            default: return upTo(most + 1);
        }
    }

    private int told() {
        return near((1 << model.things.size()) - 1);
    }

    private boolean knows(int told) {
        return told >= 0 && told < 1 << model.things.size();
    }

    private static boolean within(int v, int least, int most) {
        return v >= least && v <= most;
    }

    private void call() {
        switch (upTo(20)) {
            case 0: thing(); break;
            case 1: case 2: mendOrOf(); break;
            case 3: tape(); break;
            case 4: case 5: drive(); break;
            case 6: means(); break;
            case 7: aloudAndWho(); break;
            case 8: toldBack(); break;
            case 9: chainAndFirst(); break;
            case 10: drawn(); break;
            case 11: case 12: case 13: deed(); break;
            case 14: undoOrRedo(); break;
            case 15: case 16: shelf(); break;
            case 17: elements(); break;
            case 18: shift(); break;
            default: counts();
        }
    }

    private void thing() {
        int wc = upTo(4) == 0 ? near(612) : 100 * upTo(6) + upTo(13);
        int at = near(6);
        int due = wc < 0 || wc > 512 || wc % 100 > 12 || !within(at, 0, 6) ? -1 : model.things.size() == 8 ? -3
            : model.things.size();
        Due.due("thing(" + wc + ", " + at + ")", x.thing(wc, at), due);
        if (due >= 0) {
            model.things.add(new int[] {wc / 100, wc % 100, at, 10, 0});
        }
    }

    private int[] place(int number, int what) {
        if (within(what, 0, 4)) {
            return within(number, 0, model.things.size() - 1) ? model.things.get(number) : null;
        }
        int[] row = what == 5 ? model.pace : what == 6 ? model.way : what == 7 ? new int[] {model.price} : null;
        return row != null && within(number, 0, row.length - 1) ? row : null;
    }

    private void set(int number, int what, int v) {
        if (what == 7) {
            model.price = v;
        } else {
            place(number, what)[what < 5 ? what : number] = v;
        }
    }

    private void mendOrOf() {
        int what = near(7);
        int number = what == 7 ? near(0) : near(what < 5 ? Math.max(0, model.things.size() - 1) : 5);
        int[] place = place(number, what);
        int was = place == null ? -1 : place[what < 5 ? what : number];
        if (upTo(3) == 0) {
            Due.due("of(" + number + ", " + what + ")", x.of(number, what), was);
            return;
        }
        int[] least = {0, 0, 0, 0, 0, 1, 1, 0};
        int[] most = {5, 12, 6, 99, 255, 9, 20, 9};
        int v = near(place == null ? 9 : most[what]);
        boolean may = place != null && within(v, least[what], most[what]);
        Due.due("mend(" + number + ", " + what + ", " + v + ")", x.mend(number, what, v), may ? was : -1);
        if (may && v != was) {
            set(number, what, v);
            done.add(new int[] {number, what, was, v});
            undone.clear();
            if (done.size() > 40) {
                done.remove(0);
            }
        }
    }

    private void undoOrRedo() {
        List<int[]> from = upTo(5) < 3 ? done : undone;
        List<int[]> to = from == done ? undone : done;
        int due = from.isEmpty() ? -5 : from.size() - 1;
        Due.due(from == done ? "undo()" : "redo()", from == done ? x.undo() : x.redo(), due);
        if (!from.isEmpty()) {
            int[] change = from.remove(from.size() - 1);
            set(change[0], change[1], from == done ? change[2] : change[3]);
            to.add(change);
        }
    }

    private void tape() {
        if (upTo(4) == 0) {
            int letter = near(255);
            boolean may = within(letter, 0, 255);
            int due = !may ? -1 : tape.length() == 120 ? -3 : tape.length() + 1;
            Due.due("feed(" + letter + ")", x.feed(letter), due);
            tape += due > 0 ? "" + (char) letter : "";
        }
        String text = text();
        for (int i = 0; i < text.length(); i++) {
            int due = tape.length() == 120 ? -3 : tape.length() + 1;
            Due.due("feed(" + (int) text.charAt(i) + ")", x.feed(text.charAt(i)), due);
            tape += due > 0 ? "" + text.charAt(i) : "";
        }
        if (upTo(5) != 0) {
            int fault = Model.Text.fault(tape);
            Due.due("law() of " + tape, x.law(), fault < 0 ? 1 : -100 - fault);
            model.law = fault < 0 ? tape : model.law;
            tape = "";
        }
    }

    private String text() {
        StringBuilder text = new StringBuilder();
        for (int lines = 1 + upTo(3); lines > 0; lines--) {
            text.append(expression(2 + upTo(2))).append(upTo(2) == 0 ? "?" + expression(2) : "").append(lines > 1 ? ";" : "");
        }
        if (upTo(3) == 0 && text.length() > 0) {
            String letters = "npkws0123456789|&<=>+-*/%!()?; x";
            text.insert(upTo(text.length() + 1), letters.charAt(upTo(letters.length())));
        }
        if (upTo(5) == 0) {
            text.deleteCharAt(upTo(text.length()));
        }
        return text.toString();
    }

    private String expression(int depth) {
        int kind = upTo(depth <= 0 ? 2 : 9);
        if (kind == 0) {
            return "" + "npkws".charAt(upTo(5));
        } else if (kind == 1) {
            return "" + upTo(upTo(3) == 0 ? 10000 : 12);
        } else if (kind == 2) {
            return (upTo(2) == 0 ? "!" : "-") + expression(depth - 1);
        } else if (kind == 3) {
            return "(" + expression(depth - 1) + ")";
        }
        return expression(depth - 1) + "|&<=>+-*/%".charAt(upTo(10)) + expression(depth - 1);
    }

    private void drive() {
        int told = told();
        int what = near(4);
        boolean may = knows(told);
        Model.Trip whole = model.new Trip(may ? told : 0).whole();
        int[] due = {whole.minutes, whole.goings.size(), whole.turns, whole.leftBits(), whole.cost()};
        Due.due("drive(" + told + ", " + what + ")", x.drive(told, what), may && within(what, 0, 4) ? due[what] : -1);
        int k = near(8);
        int field = near(2);
        int want = !may || k < 0 || !within(field, 0, 2) ? -1 : k >= whole.goings.size() ? -2 : whole.goings.get(k)[field];
        Due.due("going(" + told + ", " + k + ", " + field + ")", x.going(told, k, field), want);
        Due.due("onWith(" + told + ")", x.onWith(told), may ? whole.last : -1);
    }

    private void means() {
        int part = near(2);
        int thing = upTo(4) == 0 ? near(8) : upTo(9) - 1;
        int most = near(3);
        boolean half = within(part, 0, 1);
        long bad = Long.MIN_VALUE;
        Model.Count costOf = model.costs();
        Due.due("mean(" + part + ")", x.mean(part), half ? Model.part(model.mean(model.chances(), costOf), part) : bad);
        boolean likely = half && within(thing, -1, model.things.size() - 1);
        Model.Count count = set -> {
            Model.Trip whole = model.new Trip(set).whole();
            return thing < 0 ? (whole.goings.isEmpty() ? 1 : 0) : whole.leftBits() >> thing & 1;
        };
        Due.due("likely(" + thing + ", " + part + ")", x.likely(thing, part),
                likely ? Model.part(model.mean(model.chances(), count), part) : bad);
        boolean third = within(part, 0, 2);
        Due.due("doorstep(" + part + ")", x.doorstep(part), !third ? bad : model.things.isEmpty() ? -2 : model.doorstep(part));
        if (model.things.size() < 7 || upTo(8) == 0) {
            Due.due("list(" + most + ", " + part + ")", x.list(most, part),
                    third && within(most, 0, 3) ? model.list(most, part) : bad);
        }
    }

    private void aloudAndWho() {
        int told = told();
        int person = near(5);
        boolean may = knows(told);
        Due.due("aloud(" + told + ", " + person + ")", x.aloud(told, person),
                may && within(person, 0, 5) ? model.aloud(told, person) : -1);
        int best = 0;
        for (int i = 0; i < 6 && may; i++) {
            best = model.aloud(told, i) < model.aloud(told, best) ? i : best;
        }
        Due.due("who(" + told + ")", x.who(told), may ? best : -1);
    }

    private void toldBack() {
        int shelf = near(5);
        int told = told();
        if (within(shelf, 0, 5) && knows(told) && upTo(4) != 0) {
            rowOf(shelf, told);
        }
        boolean here = within(shelf, 0, 5);
        int refusal = !here || !knows(told) ? -1 : refusalOfBytes(shelf);
        Due.due("judge(" + shelf + ", " + told + ")", x.judge(shelf, told),
                refusal != 0 ? refusal : model.judge(bytes(shelf), told));
        int what = near(2);
        refusal = !here || !within(what, 0, 2) ? -1 : refusalOfBytes(shelf);
        Due.due("which(" + shelf + ", " + what + ")", x.which(shelf, what), refusal != 0 ? refusal : which(shelf, what));
    }

    private int which(int shelf, int what) {
        int many = 0;
        int least = -2;
        int sure = -1;
        for (int set = (1 << model.things.size()) - 1; set >= 0; set--) {
            if (model.judge(bytes(shelf), set) == -2) {
                many++;
                least = set;
                sure &= set;
            }
        }
        return what == 0 ? many : what == 1 ? least : many == 0 ? 0 : sure;
    }

    /** Lays a drive's goings on a shelf, with a slip now and then. */
    private void rowOf(int shelf, int told) {
        List<int[]> goings = model.new Trip(told).whole().goings;
        int size = Math.max(0, 2 * goings.size() + (upTo(3) == 0 ? upTo(4) - 2 : 0));
        x.row(shelf, 0, size);
        sorts[shelf] = 0;
        long[] row = new long[size];
        shelves[shelf] = row;
        for (int i = 0; i < size && i < 2 * goings.size(); i++) {
            row[i] = goings.get(i / 2)[i % 2 == 0 ? 0 : 2] + (upTo(20) == 0 ? 1 : 0);
            x.put(shelf, i, row[i]);
        }
        unheldCalls += 1 + size;
    }

    private int refusalOfBytes(int shelf) {
        return shelves[shelf] == null ? -11 : shelves[shelf] instanceof long[] && sorts[shelf] == 0 ? 0 : -12;
    }

    private byte[] bytes(int shelf) {
        long[] row = (long[]) shelves[shelf];
        byte[] bytes = new byte[row.length];
        for (int i = 0; i < row.length; i++) {
            bytes[i] = (byte) row[i];
        }
        return bytes;
    }

    private void chainAndFirst() {
        int thing = near(7);
        boolean there = within(thing, 0, model.things.size() - 1);
        Due.due("chain(" + thing + ")", x.chain(thing), there ? model.chain(thing) : -1);
        int what = near(1);
        int best = 1;
        Model.Count costOf = model.costs();
        for (int set = 2; set < 1 << model.things.size(); set++) {
            best = costOf.of(set) > costOf.of(best) ? set : best;
        }
        long due = !within(what, 0, 1) ? -1 : model.things.isEmpty() ? -2 : what == 0 ? best : costOf.of(best);
        Due.due("first(" + what + ")", x.first(what), due);
    }

    private int[] draws(int seed, int n) {
        int[] sets = new int[n];
        long z = seed;
        for (int i = 0; i < n; i++) {
            for (int thing = 0; thing < model.things.size(); thing++) {
                z = z * 1103515245L + 12345L & 0xFFFFFFFFL;
                sets[i] |= z / 256 % 12 < model.things.get(thing)[Model.CHANCE] ? 1 << thing : 0;
            }
        }
        return sets;
    }

    private void drawn() {
        int seed = random.nextInt();
        int n = near(30);
        int what = near(1);
        int sum = 0;
        int without = 0;
        boolean may = within(n, 1, 30) && within(what, 0, 1);
        for (int set : draws(seed, may ? n : 0)) {
            Model.Trip whole = model.new Trip(set).whole();
            sum += whole.cost();
            without += whole.goings.isEmpty() ? 1 : 0;
        }
        Due.due("drawn(" + seed + ", " + n + ", " + what + ")", x.drawn(seed, n, what), !may ? -1 : what == 0 ? sum : without);
    }

    private void deed() {
        switch (upTo(12)) {
            case 0: case 1: case 2: lock(); break;
            case 3: imageOrBack(); break;
            case 4: led(); break;
            default: on();
        }
    }

    private void lock() {
        int seed = random.nextInt();
        int set = draws(seed, 1)[0];
        Due.due("lock(" + seed + ")", x.lock(seed), stop >= 0 ? -5 : Integer.bitCount(set));
        if (stop < 0) {
            trip = model.new Trip(set);
            stop = 0;
        }
    }

    private void on() {
        if (stop < 0) {
            Due.due("on()", x.on(), -5);
            return;
        }
        trip.at(stop);
        stop = stop == 6 ? -2 : stop + 1;
        Due.due("on()", x.on(), stop);
        if (stop < 0) {
            overs++;
            costs += trip.cost();
        }
        led();
    }

    private void led() {
        int what = near(6);
        int[] due = {trip.minutes, trip.goings.size(), trip.turns, trip.leftBits(), overs, costs, stop};
        Due.due("led(" + what + ")", x.led(what), within(what, 0, 6) ? due[what] : -1);
    }

    private void imageOrBack() {
        if (upTo(2) == 0) {
            imageTrip = model.new Trip(trip);
            image = new int[] {stop, overs, costs};
            Due.due("image()", x.image(), trip.minutes);
            return;
        }
        Due.due("back()", x.back(), image == null ? -5 : imageTrip.minutes);
        if (image != null) {
            trip = model.new Trip(imageTrip);
            stop = image[0];
            overs = image[1];
            costs = image[2];
        }
        led();
    }

    private void shelf() {
        int shelf = near(5);
        boolean here = within(shelf, 0, 5);
        if (upTo(3) == 0) {
            int sort = near(4);
            int n = near(60);
            int due = !here || !within(sort, 0, 4) || n > 60 ? -1 : n < 0 ? -14 : 1;
            Due.due("row(" + shelf + ", " + sort + ", " + n + ")", x.row(shelf, sort, n), due);
            if (due == 1) {
                shelves[shelf] = new long[n];
                sorts[shelf] = sort;
            }
            return;
        }
        if (upTo(2) == 0) {
            int kind = near(7);
            boolean may = within(kind, 0, 7);
            Due.due("body(" + kind + ")", x.body(kind), !may ? -1 : bodies.size() == 50 ? -3 : bodies.size());
            if (may && bodies.size() < 50) {
                bodies.add(kind);
            }
            return;
        }
        if (upTo(2) == 0) {
            int body = upTo(6) == 0 ? -1 : near(Math.max(0, bodies.size() - 1));
            boolean may = here && within(body, -1, bodies.size() - 1);
            Due.due("keep(" + shelf + ", " + body + ")", x.keep(shelf, body), may ? 1 : -1);
            if (may) {
                shelves[shelf] = body < 0 ? null : bodies.get(body);
            }
            return;
        }
        int k = near(7);
        Due.due("taken(" + shelf + ", " + k + ")", x.taken(shelf, k), !here || !within(k, 0, 7) ? -1 : taken(shelf, k));
    }

    private int taken(int shelf, int k) {
        if (!(shelves[shelf] instanceof Integer)) {
            return shelves[shelf] == null ? -11 : -12;
        }
        String[] lines = {"0", "10", "20", "320", "410", "5320", "60", "760"};
        int kind = (Integer) shelves[shelf];
        return lines[kind].indexOf('0' + k) >= 0 ? kind : -12;
    }

    private static long lowest(int sort, long v) {
        int bits = sort == 0 ? 56 : sort == 1 ? 48 : sort == 2 ? 32 : 0;
        return sort == 4 ? (v == 0 ? 0 : 1) : v << bits >> bits;
    }

    private void elements() {
        int shelf = near(5);
        int i = near(20);
        long v = random.nextLong() >> upTo(64);
        Object held = within(shelf, 0, 5) ? shelves[shelf] : null;
        long[] row = held instanceof long[] ? (long[]) held : null;
        int refusal = !within(shelf, 0, 5) ? -1 : held == null ? -11 : row == null ? -12 : within(i, 0, row.length - 1) ? 0 : -13;
        Due.due("put(" + shelf + ", " + i + ", " + v + ")", x.put(shelf, i, v), refusal == 0 ? 1 : refusal);
        if (refusal == 0) {
            row[i] = lowest(sorts[shelf], v);
        }
        Due.due("element(" + shelf + ", " + i + ")", x.element(shelf, i), refusal == 0 ? row[i] : Long.MIN_VALUE);
        things();
    }

    private void things() {
        int shelf = near(5);
        int i = near(12);
        int n = 1 + near(7);
        if (!within(shelf, 0, 5) || n < 1 || n > 8 || shelves[shelf] == null || refusalOfBytes(shelf) != 0) {
            int due = !within(shelf, 0, 5) || n < 1 || n > 8 ? -1 : shelves[shelf] == null ? 0 : -12;
            Due.due("things(" + shelf + ", " + i + ", " + n + ")", x.things(shelf, i, n), due);
            return;
        }
        Deque<Byte> rest = new ArrayDeque<>();
        byte[] row = bytes(shelf);
        for (int at = i; i >= 0 && at < row.length && at >= 0; at++) {
            rest.add(row[at]);
        }
        int came = 0;
        while (came < n && rest.size() >= 4 && model.things.size() < 8) {
            int[] t = {rest.pop(), rest.pop(), rest.pop(), rest.pop(), 0};
            if (!within(t[0], 0, 5) || !within(t[1], 0, 12) || !within(t[2], 0, 6) || !within(t[3], 0, 99)) {
                break;
            }
            model.things.add(t);
            came++;
        }
        Due.due("things(" + shelf + ", " + i + ", " + n + ")", x.things(shelf, i, n), came);
    }

    private void shift() {
        int shelf = near(5);
        int other = upTo(3) == 0 ? shelf : near(5);
        int i = near(12);
        int j = near(12);
        int n = near(20);
        int due = n;
        if (!within(shelf, 0, 5) || !within(other, 0, 5)) {
            due = -1;
        } else {
            Object a = shelves[shelf];
            Object b = shelves[other];
            if (a == null || b == null) {
                due = -11;
            } else if (!(a instanceof long[]) || !(b instanceof long[]) || sorts[shelf] != sorts[other]) {
                due = -12;
            } else if (n < 0 || i < 0 || j < 0 || (long) i + n > ((long[]) a).length || (long) j + n > ((long[]) b).length) {
                due = -13;
            } else {
                long[] copy = ((long[]) a).clone();
                for (int at = 0; at < n; at++) {
                    ((long[]) b)[j + at] = copy[i + at];
                }
            }
        }
        Due.due("shift(" + shelf + ", " + i + ", " + other + ", " + j + ", " + n + ")", x.shift(shelf, i, other, j, n), due);
        if (due > 0) {
            int at = upTo(due);
            Due.due("element behind shift", x.element(other, j + at), ((long[]) shelves[other])[j + at]);
        }
    }

    private void counts() {
        int[] due = {model.things.size(), tape.length(), done.size(), bodies.size()};
        int what = near(3);
        if (what != 4) {
            Due.due("count(" + what + ")", x.count(what), within(what, 0, 3) ? due[what] : -1);
        }
        acts();
    }

    private void acts() {
        if (bodies.isEmpty()) {
            return;
        }
        int body = upTo(bodies.size());
        int v = upTo(2) == 0 ? random.nextInt() : upTo(20);
        List<Integer> ran = new ArrayList<>();
        Going going = Going.of(bodies.get(body), body, ran);
        int act = upTo(4);
        int due = act == 0 ? going.goes(v) : act == 1 ? going.finds(v) : act == 2 ? going.sets(v) : going.tells(v);
        Due.due("act(" + body + ", " + act + ", " + v + ")", x.act(body, act, v), due);
        Due.due("count(4)", x.count(4), ran.size());
        for (int i = 0; i < 26; i++) {
            Due.due("trace(" + i + ")", x.trace(i), i < ran.size() && i < 24 ? ran.get(i) : -1);
        }
    }
}
