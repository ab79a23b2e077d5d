/** Promises 22 to 28: lock, on, led, image, back, undo, redo. */
public final class DeedTest {
    private static final int WHOSE = 0, CHANCE = 1, STOP = 2, WORTH = 3, SETS_OFF = 4, PACE = 5, WAY = 6, PRICE = 7;
    private static final int MINUTES = 0, GOINGS = 1, TURNS = 2, LEFT = 3, OVERS = 4, COSTS = 5, AT = 6;

    public static void main(String[] args) {
        lock();
        on();
        ledStopByStop();
        likeADriveInThought();
        mendedOnTheWay();
        whatWasLeftStays();
        costsByThePriceThen();
        image();
        imageOfADriveThatIsOver();
        undoAndRedo();
        fortyAtMost();
        noChanges();
        undoOfEachKind();
        Due.close();
    }

    private static void driveToTheEnd(BackHouse x) {
        for (int i = 0; i < 7 && x.led(AT) != BackHouse.NOT; i++) {
            x.on();
        }
    }

    private static void ledIs(String of, BackHouse x, int... want) {
        for (int what = MINUTES; what < want.length; what++) {
            Due.due(of + ": led(" + what + ")", x.led(what), want[what]);
        }
    }

    private static void lock() {
        // From 1 on the draws are 2, 8, 0 and 11 by twelve.
        Due.due("two of four", Houses.withThings(3, 0, 8, 0, 1, 0, 11, 0).lock(1), 2);
        Due.due("four of four", Houses.withThings(3, 0, 9, 0, 1, 0, 12, 0).lock(1), 4);
        Due.due("none of four", Houses.withThings(2, 0, 8, 0, 0, 0, 11, 0).lock(1), 0);
        BackHouse x = Houses.withThings(3, 0, 8, 0, 1, 0, 11, 0);
        x.lock(1);
        Due.due("a drive is on", x.lock(1), BackHouse.STATE);
        ledIs("locked", x, 0, 0, 0, 0, 0, 0, 0);
        x.on();
        Due.due("a drive is still on", x.lock(1), BackHouse.STATE);
        ledIs("0 and 2 are gone for", x, 3 + 6, 2, 0, 0, 0, 0, 1);
        driveToTheEnd(x);
        Due.due("over: locked again", x.lock(1), 2);
        ledIs("locked again", x, 0, 0, 0, 0, 1, 24, 0);
    }

    private static void on() {
        BackHouse x = new BackHouse();
        Due.due("no drive is on", x.on(), BackHouse.STATE);
        x.lock(5);
        for (int stop = 1; stop <= 6; stop++) {
            Due.due("on to " + stop, x.on(), stop);
            Due.due("led(6) at " + stop, x.led(AT), stop);
        }
        Due.due("over", x.on(), BackHouse.NOT);
        Due.due("led(6) then", x.led(AT), BackHouse.NOT);
        Due.due("no drive is on any more", x.on(), BackHouse.STATE);
        ledIs("over", x, 18, 0, 0, 0, 1, 18);
    }

    private static void ledStopByStop() {
        BackHouse x = Houses.withThings(12, 0, 12, 2, 12, 2, 12, 4);
        x.mend(0, SETS_OFF, 2);
        x.mend(2, WORTH, 13);
        x.mend(3, WORTH, 9);
        x.mend(0, PRICE, 1);
        Due.due("all are forgotten", x.lock(77), 4);
        int[][] want = {{3 + 6, 2, 0, 0, 0, 0, 1}, {12, 2, 0, 0, 0, 0, 2}, {12 + 12 + 3 + 3, 3, 1, 0, 0, 0, 3},
            {33, 3, 1, 0, 0, 0, 4}, {36, 3, 1, 8, 0, 0, 5}, {39, 3, 1, 8, 0, 0, 6}, {39, 3, 1, 8, 1, 48, BackHouse.NOT}};
        for (int i = 0; i < want.length; i++) {
            x.on();
            ledIs("on " + i, x, want[i]);
        }
        Due.due("led(7)", x.led(7), BackHouse.BAD);
        Due.due("led(-1)", x.led(-1), BackHouse.BAD);
    }

    private static void likeADriveInThought() {
        BackHouse x = Houses.withThings(12, 0, 112, 1, 212, 3, 312, 6, 412, 6, 512, 5);
        x.mend(0, SETS_OFF, 8);
        x.mend(1, WORTH, 7);
        x.mend(4, WORTH, 60);
        x.mend(5, PACE, 9);
        x.lock(3);
        driveToTheEnd(x);
        for (int what = MINUTES; what <= LEFT; what++) {
            Due.due("as in thought: " + what, x.led(what), x.drive(63, what));
        }
        Due.due("as in thought: cost", x.led(COSTS), x.drive(63, 4));
        Due.due("with turns", x.led(TURNS), 2);
    }

    private static void mendedOnTheWay() {
        BackHouse x = Houses.withThings(12, 1, 12, 5);
        x.lock(0);
        x.on();
        x.mend(0, STOP, 0);
        x.mend(0, CHANCE, 0);
        x.mend(1, STOP, 2);
        x.mend(1, WORTH, 99);
        x.mend(1, WHOSE, 4);
        x.mend(4, PACE, 9);
        x.mend(0, WAY, 10);
        x.mend(1, WAY, 4);
        x.thing(12, 2);
        Due.due("on to 2", x.on(), 2);
        ledIs("on to 2", x, 3 + 4, 0, 0, 0);
        Due.due("on to 3", x.on(), 3);
        ledIs("by the ways and people as they are now", x, 3 + 4 + 2 * 14 + 10 + 3, 1, 1, 0);
        driveToTheEnd(x);
        ledIs("what never came to mind is not left", x, 48 + 9, 1, 1, 0, 1, 57);
    }

    private static void whatWasLeftStays() {
        BackHouse x = Houses.withThings(12, 1, 12, 2, 12, 3);
        x.mend(0, WORTH, 6);
        x.mend(1, WORTH, 99);
        x.mend(1, SETS_OFF, 1);
        x.lock(0);
        x.on();
        x.on();
        ledIs("left at 1", x, 6, 0, 0, 1);
        x.mend(0, STOP, 3);
        x.mend(0, WORTH, 99);
        x.on();
        ledIs("not set off again", x, 6 + 12 + 3 + 3, 1, 1, 1);
        x.on();
        ledIs("does not come to mind again", x, 24 + 3, 1, 1, 5);
        x.mend(1, STOP, 4);
        x.on();
        ledIs("what is had stays had", x, 27 + 3, 1, 1, 5);
        driveToTheEnd(x);
        ledIs("worth as it is at the end", x, 33, 1, 1, 5, 1, 33 + 99 + 10);
    }

    private static void costsByThePriceThen() {
        BackHouse x = new BackHouse();
        x.lock(0);
        driveToTheEnd(x);
        x.mend(0, PRICE, 5);
        ledIs("one at 1", x, 18, 0, 0, 0, 1, 18);
        x.lock(0);
        x.on();
        x.mend(0, PRICE, 4);
        driveToTheEnd(x);
        ledIs("one at 1, one at 4", x, 18, 0, 0, 0, 2, 90);
    }

    private static void image() {
        BackHouse x = Houses.withThings(12, 0, 12, 2);
        Due.due("there is none", x.back(), BackHouse.STATE);
        x.lock(0);
        x.on();
        Due.due("image()", x.image(), 6);
        x.on();
        x.mend(1, WORTH, 99);
        driveToTheEnd(x);
        ledIs("over", x, 18 + 3 + 12 + 3, 2, 1, 0, 1, 36, BackHouse.NOT);
        x.mend(1, CHANCE, 0);
        Due.due("another drive forgets less", x.lock(0), 1);
        x.on();
        Due.due("back()", x.back(), 6);
        ledIs("laid back", x, 6, 1, 0, 0, 0, 0, 1);
        Due.due("a drive is on", x.lock(0), BackHouse.STATE);
        Due.due("what was mended stays", x.of(1, WORTH), 99);
        Due.due("on from there", x.on(), 2);
        Due.due("on from there", x.on(), 3);
        ledIs("what is forgotten is laid back, too", x, 6 + 3 + 12 + 3 + 3, 2, 1, 0, 0, 0, 3);
        Due.due("back() again", x.back(), 6);
        ledIs("laid back again", x, 6, 1, 0, 0, 0, 0, 1);
        x.on();
        Due.due("a later image", x.image(), 9);
        x.on();
        Due.due("the later one is laid back", x.back(), 9);
        ledIs("the later one", x, 9, 1, 0, 0, 0, 0, 2);
    }

    private static void imageOfADriveThatIsOver() {
        BackHouse x = Houses.withThings(12, 6);
        Due.due("an image of none", x.image(), 0);
        x.lock(0);
        driveToTheEnd(x);
        ledIs("over", x, 18, 0, 0, 1, 1, 28, BackHouse.NOT);
        Due.due("back to none", x.back(), 0);
        ledIs("none", x, 0, 0, 0, 0, 0, 0, BackHouse.NOT);
        Due.due("none is on", x.on(), BackHouse.STATE);
        x.lock(0);
        driveToTheEnd(x);
        Due.due("an image of one that is over", x.image(), 18);
        x.lock(0);
        x.on();
        Due.due("back to one that is over", x.back(), 18);
        ledIs("over", x, 18, 0, 0, 1, 1, 28, BackHouse.NOT);
        Due.due("none is on", x.on(), BackHouse.STATE);
    }

    private static void undoAndRedo() {
        BackHouse x = Houses.withThings(206, 3);
        Due.due("undo() of none", x.undo(), BackHouse.STATE);
        Due.due("redo() of none", x.redo(), BackHouse.STATE);
        x.mend(0, WORTH, 20);
        x.mend(0, WORTH, 30);
        x.mend(3, WAY, 9);
        Due.due("count(2)", x.count(2), 3);
        Due.due("undo()", x.undo(), 2);
        Due.due("the way", x.of(3, WAY), 3);
        Due.due("undo()", x.undo(), 1);
        Due.due("the worth", x.of(0, WORTH), 20);
        Due.due("redo()", x.redo(), 1);
        Due.due("the worth again", x.of(0, WORTH), 30);
        Due.due("count(2)", x.count(2), 2);
        x.mend(0, WORTH, 30);
        x.mend(0, WORTH, 100);
        Due.due("the same number and a bad one are none", x.redo(), 0);
        Due.due("the way again", x.of(3, WAY), 9);
        Due.due("redo() of none", x.redo(), BackHouse.STATE);
        x.undo();
        x.undo();
        x.mend(0, WORTH, 40);
        Due.due("another came behind", x.redo(), BackHouse.STATE);
        Due.due("count(2)", x.count(2), 2);
        Due.due("undo()", x.undo(), 1);
        Due.due("the worth before", x.of(0, WORTH), 20);
        Due.due("undo()", x.undo(), 0);
        Due.due("the worth at first", x.of(0, WORTH), 10);
        Due.due("undo() of none", x.undo(), BackHouse.STATE);
        Due.due("redo()", x.redo(), 1);
    }

    private static void fortyAtMost() {
        BackHouse x = Houses.withThings(6, 0);
        for (int worth = 11; worth <= 52; worth++) {
            x.mend(0, WORTH, worth);
            Due.due("count(2)", x.count(2), Math.min(40, worth - 10));
        }
        for (int still = 39; still >= 0; still--) {
            Due.due("undo()", x.undo(), still);
            Due.due("the worth", x.of(0, WORTH), still + 12);
        }
        Due.due("no more are kept", x.undo(), BackHouse.STATE);
        for (int still = 39; still >= 0; still--) {
            Due.due("redo()", x.redo(), still);
            Due.due("the worth", x.of(0, WORTH), 52 - still);
        }
        Due.due("no more to do again", x.redo(), BackHouse.STATE);
    }

    private static void noChanges() {
        BackHouse x = Houses.withThings(6, 0);
        x.mend(0, WORTH, 50);
        x.undo();
        x.thing(6, 0);
        x.feed('9');
        x.law();
        x.image();
        x.lock(0);
        x.on();
        x.back();
        x.row(0, 0, 4);
        x.things(0, 0, 1);
        Due.due("deeds, things and laws are none", x.count(2), 0);
        Due.due("and none came behind", x.redo(), 0);
        Due.due("the worth", x.of(0, WORTH), 50);
        Due.due("the law stays", x.undo() + x.going(1, 0, 2), 9);
        Due.due("things stay", x.count(0), 3);
    }

    private static void undoOfEachKind() {
        BackHouse x = Houses.withThings(206, 3);
        int[] first = {2, 6, 3, 10, 0, 2, 3, 1};
        int[] then = {4, 7, 1, 99, 128, 9, 20, 0};
        for (int what = WHOSE; what <= PRICE; what++) {
            x.mend(0, what, then[what]);
        }
        for (int what = PRICE; what >= WHOSE; what--) {
            Due.due("undo of " + what, x.undo(), what);
            Due.due("of(0, " + what + ")", x.of(0, what), first[what]);
        }
        for (int what = WHOSE; what <= PRICE; what++) {
            Due.due("redo of " + what, x.redo(), PRICE - what);
            Due.due("of(0, " + what + ") again", x.of(0, what), then[what]);
        }
    }
}
