/** Each sentence on drives in deed, changes and images that names an edge, in a test of its own: promises 22 to 28. */
public final class DeedEdgesTest {
    private static final int WHOSE = 0, CHANCE = 1, STOP = 2, WORTH = 3, SETS_OFF = 4, PACE = 5, WAY = 6, PRICE = 7;
    private static final int MINUTES = 0, GOINGS = 1, TURNS = 2, LEFT = 3, OVERS = 4, COSTS = 5, AT = 6;
    private static final int BAD = BackHouse.BAD, NOT = BackHouse.NOT, STATE = BackHouse.STATE;
    private static final int FAR = Integer.MAX_VALUE, FAR_BELOW = Integer.MIN_VALUE;

    public static void main(String[] args) {
        aDrawEachAsTold();
        minutesZero();
        aDriveIsOn();
        whoIsWhere();
        behindStop6();
        noDriveIsOn();
        theDriveThatIsOnOrWasLast();
        drivesThatWereOver();
        byThePriceThen();
        ledIsBad();
        mayBeMendedOnTheWay();
        whatIsForgottenStays();
        whatIsHadStays();
        whatIsLeftStays();
        whatNeverComesToMind();
        tellingTheSameIsNone();
        undoneTheLatestFirst();
        undoneWhereItWas();
        undoOfNone();
        doneAgain();
        asLongAsNoOtherCame();
        fortyAtMost();
        deedsAreNone();
        whatAreChanges();
        imageOfNone();
        imageOfOneThatIsOn();
        imageOfOneThatIsOver();
        imageKeepsWhatLedTells();
        imageIsOfTheDriveAlone();
        laidBackAgain();
        laterImage();
        noImage();
        Due.close();
    }

    private static void ledIs(BackHouse x, int... want) {
        for (int what = MINUTES; what < want.length; what++) {
            Due.due("led(" + what + ")", x.led(what), want[what]);
        }
    }

    private static void onTo(BackHouse x, int... stops) {
        for (int stop : stops) {
            Due.due("on()", x.on(), stop);
        }
    }

    private static void aDrawEachAsTold() {
        Due.sentence("LOCK by a SEED: THINGS are forgotten by a draw each, as told");
        int[] chances = {3, 9, 0, 12, 6, 5, 1, 11};
        for (int seed : new int[] {0, 1, -1, 7, 99, FAR, FAR_BELOW, 1 << 20}) {
            BackHouse x = new BackHouse();
            int z = seed;
            int forgotten = 0;
            for (int thing = 0; thing < 8; thing++) {
                x.thing(chances[thing], 6);
                z = z * 1103515245 + 12345;
                forgotten += (z >>> 8) % 12 < chances[thing] ? 1 << thing : 0;
            }
            x.mend(0, PRICE, 9);
            Due.due("lock(" + seed + ")", x.lock(seed), Integer.bitCount(forgotten));
            Houses.toTheEnd(x);
            Due.due("those are left", x.led(LEFT), forgotten);
            Due.due("lock(" + seed + ") again", x.lock(seed), Integer.bitCount(forgotten));
        }
        Due.due("no things", new BackHouse().lock(5), 0);
    }

    private static void minutesZero() {
        Due.sentence("MINUTES 0.");
        BackHouse x = Houses.withThings(12, 0, 12, 1, 12, 2);
        x.mend(1, WORTH, 99);
        x.lock(1);
        ledIs(x, 0, 0, 0, 0, 0, 0, 0);
        Houses.toTheEnd(x);
        ledIs(x, 18 + 3 + 6 + 3, 2, 1, 4, 1, 40, NOT);
        x.lock(1);
        ledIs(x, 0, 0, 0, 0, 1, 40, 0);
        Houses.toTheEnd(x);
        ledIs(x, 18 + 3 + 6 + 3, 2, 1, 4, 2, 80, NOT);
    }

    private static void aDriveIsOn() {
        Due.sentence("LOCK: .. STATE: a drive is on.");
        BackHouse x = Houses.withThings(12, 0);
        x.lock(1);
        for (int stop = 1; stop <= 6; stop++) {
            Due.due("lock(1)", x.lock(1), STATE);
            onTo(x, stop);
            ledIs(x, 3 * stop + 3, 1, 0, 0, 0, 0, stop);
        }
        Due.due("at the last stop", x.lock(1), STATE);
        onTo(x, NOT);
        Due.due("behind it", x.lock(1), 1);
    }

    private static void whoIsWhere() {
        Due.sentence("the STOP one is at does what it does (as in a DRIVE), and one drives to the next one: who is where");
        BackHouse x = Houses.withThings(12, 0, 12, 2, 12, 4, 12, 6);
        x.mend(1, WORTH, 13);
        x.mend(3, WORTH, 37);
        x.lock(1);
        int[][] want = {{6, 1, 0, 0}, {9, 1, 0, 0}, {12 + 12 + 3, 2, 1, 0}, {30, 2, 1, 0}, {33, 2, 1, 4}, {36, 2, 1, 4},
            {36 + 36 + 3, 3, 2, 4}};
        for (int i = 0; i < 7; i++) {
            onTo(x, i < 6 ? i + 1 : NOT);
            ledIs(x, want[i]);
        }
        for (int what = MINUTES; what <= LEFT; what++) {
            Due.due("as in thought: " + what, x.led(what), x.drive(15, what));
        }
    }

    private static void behindStop6() {
        Due.sentence("behind STOP 6 the drive is over. .. NOT: it is over then (a deed, no refusal)");
        BackHouse x = new BackHouse();
        x.lock(1);
        onTo(x, 1, 2, 3, 4, 5, 6);
        ledIs(x, 18, 0, 0, 0, 0, 0, 6);
        onTo(x, NOT);
        ledIs(x, 18, 0, 0, 0, 1, 18, NOT);
    }

    private static void noDriveIsOn() {
        Due.sentence("STATE: no drive is on.");
        BackHouse x = new BackHouse();
        onTo(x, STATE);
        x.lock(1);
        onTo(x, 1, 2, 3, 4, 5, 6, NOT, STATE, STATE);
        ledIs(x, 18, 0, 0, 0, 1, 18, NOT);
    }

    private static void theDriveThatIsOnOrWasLast() {
        Due.sentence("LED: MINUTES, GOINGS, TURNS, LEFT of the drive that is on or was last");
        BackHouse x = Houses.withThings(12, 0, 12, 1, 12, 6);
        x.mend(1, WORTH, 50);
        ledIs(x, 0, 0, 0, 0, 0, 0, NOT);
        x.lock(1);
        Houses.toTheEnd(x);
        ledIs(x, 30, 2, 1, 4, 1, 40, NOT);
        x.mend(0, CHANCE, 0);
        x.mend(1, CHANCE, 0);
        x.mend(2, CHANCE, 0);
        x.drive(7, 0);
        ledIs(x, 30, 2, 1, 4, 1, 40, NOT);
        x.lock(1);
        ledIs(x, 0, 0, 0, 0, 1, 40, 0);
        onTo(x, 1);
        ledIs(x, 3, 0, 0, 0, 1, 40, 1);
    }

    private static void drivesThatWereOver() {
        Due.sentence("how many drives were over; all COSTS of these");
        BackHouse x = Houses.withThings(12, 6);
        for (int drive = 1; drive <= 10; drive++) {
            x.lock(drive);
            Due.due("before it is over", x.led(OVERS), drive - 1);
            Houses.toTheEnd(x);
            ledIs(x, 18, 0, 0, 1, drive, 28 * drive, NOT);
        }
    }

    private static void byThePriceThen() {
        Due.sentence("(by PRICE as it was then)");
        BackHouse x = new BackHouse();
        x.lock(1);
        onTo(x, 1, 2, 3, 4, 5, 6);
        x.mend(0, PRICE, 7);
        onTo(x, NOT);
        Due.due("led(COSTS)", x.led(COSTS), 126);
        x.mend(0, PRICE, 0);
        Due.due("led(COSTS) still", x.led(COSTS), 126);
        x.lock(1);
        Houses.toTheEnd(x);
        Due.due("led(COSTS) by 0", x.led(COSTS), 126);
        x.undo();
        x.undo();
        x.lock(1);
        Houses.toTheEnd(x);
        Due.due("led(COSTS) by 1", x.led(COSTS), 144);
    }

    private static void ledIsBad() {
        Due.sentence("COSTS (5), the STOP (6; NOT: no drive is on). BAD.");
        BackHouse x = new BackHouse();
        for (int what : new int[] {-1, 7, FAR, FAR_BELOW}) {
            Due.due("led(" + what + ")", x.led(what), BAD);
        }
        Due.due("led(6)", x.led(AT), NOT);
        x.lock(1);
        Due.due("led(6) then", x.led(AT), 0);
    }

    private static void mayBeMendedOnTheWay() {
        Due.sentence("(THINGS, WAYS, CHANCES may be mended on the way");
        BackHouse x = Houses.withThings(12, 3, 12, 5);
        x.lock(1);
        onTo(x, 1);
        x.mend(0, WAY, 10);
        x.mend(1, WAY, 4);
        x.mend(0, STOP, 2);
        x.mend(0, WORTH, 29);
        x.mend(0, WHOSE, 4);
        x.mend(4, PACE, 6);
        x.mend(0, SETS_OFF, 2);
        onTo(x, 2);
        ledIs(x, 7, 0, 0, 0);
        onTo(x, 3);
        ledIs(x, 7 + 28 + 7 + 3 + 3, 2, 1, 0);
        Houses.law(x, "9");
        onTo(x, 4, 5, 6, NOT);
        ledIs(x, 57, 2, 1, 0, 1, 57);
        BackHouse undone = Houses.withThings(12, 1);
        undone.mend(0, WORTH, 7);
        undone.lock(1);
        onTo(undone, 1);
        undone.undo();
        undone.mend(0, WORTH, 6);
        undone.undo();
        undone.mend(0, PRICE, 2);
        onTo(undone, 2);
        ledIs(undone, 6, 0, 0, 1);
    }

    private static void whatIsForgottenStays() {
        Due.sentence("what is forgotten, had, LEFT stays");
        BackHouse x = Houses.withThings(12, 1, 0, 1, 0, 1);
        x.lock(1);
        x.mend(0, CHANCE, 0);
        x.mend(1, CHANCE, 12);
        x.thing(12, 1);
        onTo(x, 1, 2);
        ledIs(x, 6 + 6 + 3, 1, 1, 0);
        x.mend(1, STOP, 2);
        onTo(x, 3, 4, 5, 6, NOT);
        ledIs(x, 27, 1, 1, 0, 1, 27);
    }

    private static void whatIsHadStays() {
        Due.sentence("what is forgotten, had, LEFT stays");
        BackHouse x = Houses.withThings(12, 0, 12, 2);
        x.mend(1, WORTH, 99);
        x.mend(1, SETS_OFF, 1);
        x.lock(1);
        onTo(x, 1);
        x.mend(0, STOP, 1);
        x.mend(0, WORTH, 99);
        onTo(x, 2);
        ledIs(x, 9, 1, 0, 0);
        onTo(x, 3);
        ledIs(x, 12 + 12 + 3, 2, 1, 0);
    }

    private static void whatIsLeftStays() {
        Due.sentence("what is forgotten, had, LEFT stays");
        BackHouse x = Houses.withThings(12, 1, 12, 2);
        x.mend(0, WORTH, 6);
        x.mend(1, WORTH, 99);
        x.mend(1, SETS_OFF, 1);
        x.lock(1);
        onTo(x, 1, 2);
        ledIs(x, 6, 0, 0, 1);
        x.mend(0, STOP, 2);
        x.mend(0, WORTH, 99);
        onTo(x, 3);
        ledIs(x, 9 + 12 + 3, 1, 1, 1);
        x.mend(0, STOP, 3);
        onTo(x, 4);
        ledIs(x, 27, 1, 1, 1);
        onTo(x, 5, 6, NOT);
        ledIs(x, 33, 1, 1, 1, 1, 33 + 99);
    }

    private static void whatNeverComesToMind() {
        Due.sentence("LEFT: bits (what never comes to mind is none");
        BackHouse x = Houses.withThings(12, 5, 12, 4);
        x.mend(1, WORTH, 99);
        x.mend(1, SETS_OFF, 0);
        Due.due("lock(1)", x.lock(1), 2);
        onTo(x, 1, 2);
        x.mend(0, STOP, 1);
        onTo(x, 3, 4, 5, 6, NOT);
        ledIs(x, 18 + 24 + 3, 1, 1, 0, 1, 45);
    }

    private static void tellingTheSameIsNone() {
        Due.sentence("telling the same number is none");
        BackHouse x = Houses.withThings(206, 3);
        int[] atFirst = {2, 6, 3, 10, 0, 2, 3, 1};
        for (int what = WHOSE; what <= PRICE; what++) {
            Due.due("mend(0, " + what + ", the same)", x.mend(0, what, atFirst[what]), atFirst[what]);
            Due.due("count(2)", x.count(2), 0);
        }
        Due.due("undo()", x.undo(), STATE);
        x.mend(0, WORTH, 11);
        x.undo();
        x.mend(0, WORTH, 10);
        Due.due("none came behind", x.redo(), 0);
        Due.due("of(0, WORTH)", x.of(0, WORTH), 11);
    }

    private static void undoneTheLatestFirst() {
        Due.sentence("can be UNDONE, the latest first");
        BackHouse x = Houses.withThings(206, 3);
        int[] atFirst = {2, 6, 3, 10, 0, 2, 3, 1};
        for (int what = WHOSE; what <= PRICE; what++) {
            x.mend(0, what, 5);
            Due.due("count(2)", x.count(2), what + 1);
        }
        for (int what = PRICE; what >= WHOSE; what--) {
            Due.due("of(0, " + what + ")", x.of(0, what), 5);
            Due.due("undo(): how many may still be", x.undo(), what);
            Due.due("of(0, " + what + ")", x.of(0, what), atFirst[what]);
            Due.due("count(2)", x.count(2), what);
        }
    }

    private static void undoneWhereItWas() {
        Due.sentence("PACE of PEOPLE; WHOSE, CHANCE, STOP, WORTH, SETS OFF of THINGS; WAYS, PRICE");
        BackHouse x = Houses.withThings(206, 3, 206, 3, 206, 3, 206, 3, 206, 3, 206, 3, 206, 3, 206, 3);
        int[] atFirst = {2, 6, 3, 10, 0, 2, 3};
        for (int what = WHOSE; what <= WAY; what++) {
            for (int number = 5; number > 0; number--) {
                x.mend(number, what, 4);
            }
        }
        for (int what = WAY; what >= WHOSE; what--) {
            for (int number = 1; number <= 5; number++) {
                x.undo();
                Due.due("of(" + number + ", " + what + ")", x.of(number, what), atFirst[what]);
                Due.due("the one ahead", x.of(Math.min(5, number + 1), what), number < 5 ? 4 : atFirst[what]);
            }
        }
        for (int what = WHOSE; what <= WAY; what++) {
            for (int number = 5; number > 0; number--) {
                x.redo();
                Due.due("of(" + number + ", " + what + ") again", x.of(number, what), 4);
                Due.due("the one behind", x.of(number - 1, what), atFirst[what]);
            }
        }
    }

    private static void undoOfNone() {
        Due.sentence("UNDONE: how many may still be. STATE: none.");
        BackHouse x = Houses.withThings(6, 0);
        Due.due("undo()", x.undo(), STATE);
        x.mend(0, WORTH, 5);
        Due.due("undo()", x.undo(), 0);
        Due.due("undo()", x.undo(), STATE);
        Due.due("of(0, WORTH)", x.of(0, WORTH), 10);
        Due.due("a refusal changes nothing: redo()", x.redo(), 0);
        Due.due("of(0, WORTH)", x.of(0, WORTH), 5);
    }

    private static void doneAgain() {
        Due.sentence("DONE AGAIN: how many may still be. STATE: none.");
        BackHouse x = Houses.withThings(206, 3);
        Due.due("redo()", x.redo(), STATE);
        for (int what = WHOSE; what <= PRICE; what++) {
            x.mend(0, what, 5);
            Due.due("redo()", x.redo(), STATE);
        }
        for (int what = WHOSE; what <= PRICE; what++) {
            x.undo();
        }
        for (int what = WHOSE; what <= PRICE; what++) {
            Due.due("redo()", x.redo(), PRICE - what);
            Due.due("of(0, " + what + ")", x.of(0, what), 5);
            Due.due("count(2)", x.count(2), what + 1);
        }
        Due.due("redo()", x.redo(), STATE);
        Due.due("undo()", x.undo(), 7);
        Due.due("of(0, PRICE)", x.of(0, PRICE), 1);
    }

    private static void asLongAsNoOtherCame() {
        Due.sentence("DONE AGAIN (as long as no other came behind)");
        BackHouse x = Houses.withThings(6, 0);
        x.mend(0, WORTH, 11);
        x.mend(0, WORTH, 12);
        x.mend(0, WORTH, 13);
        x.undo();
        x.undo();
        Due.due("redo()", x.redo(), 1);
        x.mend(0, PACE, 9);
        Due.due("redo()", x.redo(), STATE);
        Due.due("of(0, WORTH)", x.of(0, WORTH), 12);
        Due.due("undo()", x.undo(), 2);
        Due.due("of(0, PACE)", x.of(0, PACE), 2);
        Due.due("redo() of the other", x.redo(), 0);
        Due.due("of(0, PACE)", x.of(0, PACE), 9);
        Due.due("redo()", x.redo(), STATE);
        x.undo();
        Due.due("a refused one did not come", x.mend(0, PACE, 10), BAD);
        Due.due("redo()", x.redo(), 0);
        x.undo();
        x.undo();
        x.undo();
        x.mend(0, WAY, 9);
        Due.due("one behind none, three undone", x.redo(), STATE);
        Due.due("count(2)", x.count(2), 1);
        Due.due("of(0, WORTH)", x.of(0, WORTH), 10);
    }

    private static void fortyAtMost() {
        Due.sentence("40 at most are kept");
        for (int many = 39; many <= 43; many++) {
            BackHouse x = Houses.withThings(6, 0);
            for (int i = 1; i <= many; i++) {
                x.mend(0, WORTH, 10 + i);
            }
            int kept = Math.min(many, 40);
            Due.due("count(2)", x.count(2), kept);
            for (int still = kept - 1; still >= 0; still--) {
                Due.due("undo()", x.undo(), still);
            }
            Due.due("undo()", x.undo(), STATE);
            Due.due("the first ones are not undone", x.of(0, WORTH), 10 + many - kept);
            for (int still = kept - 1; still >= 0; still--) {
                Due.due("redo()", x.redo(), still);
            }
            Due.due("redo()", x.redo(), STATE);
            Due.due("of(0, WORTH)", x.of(0, WORTH), 10 + many);
        }
        BackHouse x = Houses.withThings(206, 3, 206, 3, 206, 3, 206, 3, 206, 3, 206, 3);
        for (int i = 0; i < 45; i++) {
            x.mend(i % 6, i % 7, 4 + i / 42);
        }
        for (int i = 44; i >= 5; i--) {
            Due.due("undo of " + i, x.undo(), i - 5);
            int[] atFirst = {2, 6, 3, 10, 0, 2, 3};
            Due.due("of what it was", x.of(i % 6, i % 7), i >= 42 ? 4 : atFirst[i % 7]);
        }
        Due.due("undo()", x.undo(), STATE);
        for (int i = 0; i < 5; i++) {
            Due.due("what is no more kept", x.of(i, i), 4);
        }
        for (int i = 5; i < 45; i++) {
            Due.due("redo of " + i, x.redo(), 44 - i);
            Due.due("of what it is", x.of(i % 6, i % 7), 4 + i / 42);
        }
    }

    private static void deedsAreNone() {
        Due.sentence("deeds are none");
        BackHouse x = Houses.withThings(12, 0);
        x.mend(0, WORTH, 50);
        x.undo();
        x.lock(1);
        onTo(x, 1);
        x.image();
        onTo(x, 2);
        x.back();
        Houses.toTheEnd(x);
        Due.due("count(2)", x.count(2), 0);
        Due.due("undo()", x.undo(), STATE);
        Due.due("none came behind", x.redo(), 0);
        Due.due("the drive stays as it is", x.led(OVERS), 1);
    }

    private static void whatAreChanges() {
        Due.sentence("CHANGES (PACE of PEOPLE; WHOSE, CHANCE, STOP, WORTH, SETS OFF of THINGS; WAYS, PRICE");
        BackHouse x = Houses.withThings(206, 3);
        Houses.row(x, 0, 0, 1, 1, 1, 1);
        x.things(0, 0, 1);
        x.body(0);
        x.keep(1, 0);
        x.act(0, 3, 1);
        Houses.law(x, "9");
        x.feed('7');
        Due.due("none yet", x.count(2), 0);
        for (int what = WHOSE; what <= PRICE; what++) {
            x.mend(0, what, 5);
            Due.due("count(2)", x.count(2), what + 1);
        }
    }

    private static void imageOfNone() {
        Due.sentence("AN IMAGE is kept: MINUTES.");
        BackHouse x = Houses.withThings(12, 0);
        Due.due("image()", x.image(), 0);
        x.lock(1);
        onTo(x, 1);
        Due.due("back()", x.back(), 0);
        ledIs(x, 0, 0, 0, 0, 0, 0, NOT);
        onTo(x, STATE);
        Due.due("lock(1)", x.lock(1), 1);
        Due.due("image()", x.image(), 0);
        onTo(x, 1);
        Due.due("back()", x.back(), 0);
        ledIs(x, 0, 0, 0, 0, 0, 0, 0);
        onTo(x, 1);
        Due.due("image()", x.image(), 6);
    }

    private static void imageOfOneThatIsOn() {
        Due.sentence("AN IMAGE keeps the drive that is on");
        BackHouse x = Houses.withThings(12, 0, 12, 2, 12, 3, 12, 5);
        x.mend(0, SETS_OFF, 2);
        x.mend(3, WORTH, 31);
        x.mend(3, SETS_OFF, 4);
        x.lock(1);
        onTo(x, 1, 2, 3, 4);
        ledIs(x, 18, 2, 0, 4);
        Due.due("image()", x.image(), 18);
        for (int i = 0; i < 2; i++) {
            onTo(x, 5, 6, NOT);
            ledIs(x, 24 + 30 + 3, 3, 1, 4, 1, 67, NOT);
            x.mend(3, CHANCE, 0);
            Due.due("lock(2)", x.lock(2), 3);
            onTo(x, 1);
            Due.due("back()", x.back(), 18);
            ledIs(x, 18, 2, 0, 4, 0, 0, 4);
            Due.due("lock(1)", x.lock(1), STATE);
        }
    }

    private static void imageOfOneThatIsOver() {
        Due.sentence("or was last");
        BackHouse x = Houses.withThings(12, 6);
        x.lock(1);
        Houses.toTheEnd(x);
        Due.due("image()", x.image(), 18);
        x.mend(0, STOP, 0);
        x.lock(1);
        onTo(x, 1);
        Due.due("back()", x.back(), 18);
        ledIs(x, 18, 0, 0, 1, 1, 28, NOT);
        onTo(x, STATE);
        Due.due("lock(1)", x.lock(1), 1);
    }

    private static void imageKeepsWhatLedTells() {
        Due.sentence("and what LED tells");
        BackHouse x = Houses.withThings(12, 6);
        for (int drive = 0; drive < 3; drive++) {
            x.lock(1);
            Houses.toTheEnd(x);
        }
        x.image();
        for (int drive = 0; drive < 2; drive++) {
            x.lock(1);
            Houses.toTheEnd(x);
        }
        ledIs(x, 18, 0, 0, 1, 5, 140, NOT);
        x.back();
        ledIs(x, 18, 0, 0, 1, 3, 84, NOT);
    }

    private static void imageIsOfTheDriveAlone() {
        Due.sentence("AN IMAGE keeps the drive that is on or was last, and what LED tells");
        BackHouse x = Houses.withThings(12, 6);
        x.lock(1);
        x.image();
        x.mend(0, WORTH, 5);
        x.mend(2, PACE, 5);
        x.thing(12, 0);
        Houses.law(x, "9");
        x.feed('n');
        Due.due("back()", x.back(), 0);
        Due.due("of(0, WORTH)", x.of(0, WORTH), 5);
        Due.due("of(2, PACE)", x.of(2, PACE), 5);
        Due.due("count(0)", x.count(0), 2);
        Due.due("count(1)", x.count(1), 1);
        Due.due("count(2)", x.count(2), 2);
        Due.due("the law", x.drive(2, 0), 27);
    }

    private static void laidBackAgain() {
        Due.sentence("It is laid back: MINUTES.");
        BackHouse x = Houses.withThings(12, 1);
        x.mend(0, WORTH, 7);
        x.lock(1);
        onTo(x, 1);
        Due.due("image()", x.image(), 3);
        for (int i = 0; i < 3; i++) {
            onTo(x, 2, 3);
            ledIs(x, 9 + 6 + 3, 1, 1, 0);
            Due.due("back()", x.back(), 3);
            Due.due("back() at once again", x.back(), 3);
            ledIs(x, 3, 0, 0, 0, 0, 0, 1);
        }
    }

    private static void laterImage() {
        Due.sentence("AN IMAGE is kept");
        BackHouse x = new BackHouse();
        x.lock(1);
        for (int stop = 1; stop <= 6; stop++) {
            onTo(x, stop);
            Due.due("image()", x.image(), 3 * stop);
        }
        onTo(x, NOT);
        Due.due("back()", x.back(), 18);
        Due.due("the latest one", x.led(AT), 6);
    }

    private static void noImage() {
        Due.sentence("STATE: there is none.");
        BackHouse x = new BackHouse();
        Due.due("back()", x.back(), STATE);
        x.lock(1);
        onTo(x, 1);
        Due.due("back()", x.back(), STATE);
        ledIs(x, 3, 0, 0, 0, 0, 0, 1);
    }
}
