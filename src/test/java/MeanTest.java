/** Promises 10, 11, 14, 15, 21: mean, likely, doorstep, list, drawn. */
public final class MeanTest {
    private static final int CHANCE = 1, WORTH = 3, SETS_OFF = 4, PACE = 5, PRICE = 7;
    private static final long BAD = Long.MIN_VALUE;

    public static void main(String[] args) {
        mean();
        meanFollowsWhatIsMended();
        likely();
        eightThings();
        doorstep();
        list();
        longerListsReadWorse();
        refusals();
        drawn();
        Due.close();
    }

    private static void meanIs(String of, BackHouse x, long above, long below) {
        Due.due(of + ": mean(0)", x.mean(0), above);
        Due.due(of + ": mean(1)", x.mean(1), below);
    }

    private static void likelyIs(String of, BackHouse x, int thing, long above, long below) {
        Due.due(of + ": likely(" + thing + ", 0)", x.likely(thing, 0), above);
        Due.due(of + ": likely(" + thing + ", 1)", x.likely(thing, 1), below);
    }

    private static void doorstepIs(String of, BackHouse x, int thing, long above, long below) {
        Due.due(of + ": doorstep(2)", x.doorstep(2), thing);
        Due.due(of + ": doorstep(0)", x.doorstep(0), above);
        Due.due(of + ": doorstep(1)", x.doorstep(1), below);
    }

    private static void listIs(String of, BackHouse x, int most, int list, long above, long below) {
        Due.due(of + ": list(" + most + ", 2)", x.list(most, 2), list);
        Due.due(of + ": list(" + most + ", 0)", x.list(most, 0), above);
        Due.due(of + ": list(" + most + ", 1)", x.list(most, 1), below);
    }

    private static void mean() {
        meanIs("no things", new BackHouse(), 18, 1);
        meanIs("every second drive", Houses.withThings(6, 0), 39, 2);
        meanIs("never", Houses.withThings(0, 0), 18, 1);
        meanIs("always", Houses.withThings(12, 0), 21, 1);
        meanIs("a fourth and a third", Houses.withThings(3, 0, 4, 0), 79, 4);
        meanIs("left every second drive", Houses.withThings(6, 6), 23, 1);
        BackHouse free = Houses.withThings(6, 6);
        free.mend(0, PRICE, 0);
        free.mend(0, WORTH, 0);
        meanIs("0 by 1", free, 0, 1);
        BackHouse x = Houses.withThings(6, 0, 6, 6);
        x.mend(0, SETS_OFF, 2);
        // 18; 21; 28 (left); 24 (both had).
        meanIs("each for itself", x, 91, 4);
    }

    private static void meanFollowsWhatIsMended() {
        BackHouse x = Houses.withThings(6, 0);
        meanIs("at first", x, 39, 2);
        x.mend(0, PACE, 3);
        meanIs("a pace", x, 20, 1);
        x.undo();
        meanIs("undone", x, 39, 2);
        x.redo();
        meanIs("done again", x, 20, 1);
        x.mend(0, CHANCE, 3);
        meanIs("a chance", x, 19, 1);
        x.feed('8');
        x.law();
        meanIs("a law", x, 20, 1);
        x.thing(3, 0);
        meanIs("a thing", x, 22, 1);
        x.row(0, 0, 4);
        x.put(0, 1, 3);
        x.things(0, 0, 1);
        meanIs("a thing from a row", x, 24, 1);
        x.mend(0, 6, 13);
        meanIs("a way", x, 34, 1);
    }

    private static void likely() {
        likelyIs("no things", new BackHouse(), -1, 1, 1);
        BackHouse x = Houses.withThings(6, 0, 4, 6, 12, 6);
        x.mend(0, SETS_OFF, 2);
        likelyIs("at the house", x, 0, 0, 1);
        likelyIs("set off every second drive", x, 1, 1, 6);
        likelyIs("always", x, 2, 1, 1);
        likelyIs("no going", x, -1, 1, 2);
        x.mend(1, WORTH, 27);
        // 1 and 2 together are worth 37, more than 36, where 0 does not set 1 off.
        likelyIs("together worth the way", x, 2, 5, 6);
        likelyIs("together worth the way", x, 1, 0, 1);
        likelyIs("no going then", x, -1, 1, 3);
    }

    private static void eightThings() {
        BackHouse x = Houses.withThings(5, 0, 5, 0, 5, 0, 5, 0, 5, 0, 5, 0, 5, 0, 5, 0);
        meanIs("eight things", x, 28, 1);
        likelyIs("no going of eight", x, -1, 5764801, 429981696);
        doorstepIs("eight alike", x, 0, 107, 4);
        // Three listed are forgotten by 5/12 * 3/12 each, five by 5/12: 18 + 3 * (45 + 300) / 144.
        listIs("eight alike", x, 3, 7, 403, 16);
    }

    private static void doorstep() {
        doorstepIs("a fourth and a third", Houses.withThings(3, 0, 4, 0), 1, 75, 4);
        doorstepIs("of like ones the least", Houses.withThings(3, 0, 3, 0), 0, 75, 4);
        doorstepIs("never forgotten anyway", Houses.withThings(0, 0, 0, 3), 0, 18, 1);
        BackHouse x = Houses.withThings(3, 0, 4, 0);
        x.mend(0, SETS_OFF, 2);
        x.mend(1, 2, 6);
        // Not 0: 18 + 10 / 3. Not 1: 18 + 3 / 4.
        doorstepIs("left is dear", x, 1, 75, 4);
        Due.due("no things", new BackHouse().doorstep(0), BackHouse.NOT);
        Due.due("no things", new BackHouse().doorstep(1), BackHouse.NOT);
        Due.due("no things", new BackHouse().doorstep(2), BackHouse.NOT);
    }

    private static void list() {
        BackHouse x = Houses.withThings(3, 0, 4, 0);
        listIs("of none", x, 0, 0, 79, 4);
        listIs("of one", x, 1, 2, 113, 6);
        listIs("of two", x, 2, 3, 439, 24);
        listIs("of more than there are", x, 3, 3, 439, 24);
        listIs("never forgotten anyway", Houses.withThings(0, 0, 0, 0), 3, 0, 18, 1);
        listIs("of like ones the least", Houses.withThings(6, 0, 6, 0), 1, 1, 157, 8);
        BackHouse four = Houses.withThings(12, 0, 12, 0, 12, 0, 12, 0);
        listIs("four for sure, of two", four, 2, 3, 25, 1);
        listIs("four for sure, of three", four, 3, 7, 93, 4);
        listIs("no things", new BackHouse(), 3, 0, 18, 1);
    }

    private static void longerListsReadWorse() {
        BackHouse x = Houses.withThings(1, 0, 12, 0);
        // {1}: 1/12 + 1/12; both: 2/12 * 13/12, which is more.
        listIs("a longer one is worse", x, 3, 2, 37, 2);
        x.mend(1, CHANCE, 10);
        // {1}: 10/144 + 12/144; both: 2/12 * 11/12: like ones.
        listIs("of like ones fewer", x, 3, 2, 443, 24);
        // Of 2: 2 * 9/144 + 1/12; of 3: 3 * 10/144: like ones.
        listIs("of like ones two", Houses.withThings(4, 0, 5, 0, 1, 0), 3, 3, 149, 8);
        // Of 2: 2 * 17/144 + 2/12; of 3: 3 * 19/144, which is less.
        listIs("three are just better", Houses.withThings(8, 0, 9, 0, 2, 0), 3, 7, 307, 16);
    }

    private static void refusals() {
        BackHouse x = Houses.withThings(6, 0, 6, 6);
        int[] noPart = {-1, 2, 3, Integer.MAX_VALUE, Integer.MIN_VALUE};
        for (int part : noPart) {
            Due.due("mean(" + part + ")", x.mean(part), BAD);
            Due.due("likely(0, " + part + ")", x.likely(0, part), BAD);
            if (part != 2) {
                Due.due("doorstep(" + part + ")", x.doorstep(part), BAD);
                Due.due("list(1, " + part + ")", x.list(1, part), BAD);
                Due.due("doorstep(" + part + ") without things", new BackHouse().doorstep(part), BAD);
            }
        }
        Due.due("likely(2, 0)", x.likely(2, 0), BAD);
        Due.due("likely(-2, 0)", x.likely(-2, 0), BAD);
        Due.due("likely(MAX, 0)", x.likely(Integer.MAX_VALUE, 0), BAD);
        Due.due("list(4, 2)", x.list(4, 2), BAD);
        Due.due("list(-1, 2)", x.list(-1, 2), BAD);
    }

    private static void drawn() {
        BackHouse none = new BackHouse();
        Due.due("no things: costs", none.drawn(5, 30, 0), 540);
        Due.due("no things: none goes", none.drawn(5, 30, 1), 30);
        // From 1 on the numbers, shifted by 8, are 2, 8, 0 and 11 by twelve.
        BackHouse x = Houses.withThings(3, 0, 8, 0);
        Due.due("below its chance, not below", x.drawn(1, 1, 0), 21);
        Due.due("somebody goes", x.drawn(1, 1, 1), 0);
        Due.due("the draws go on", x.drawn(1, 2, 0), 42);
        x.mend(1, CHANCE, 9);
        Due.due("just below", x.drawn(1, 1, 0), 24);
        Due.due("just below, and not", x.drawn(1, 2, 0), 45);
        x.mend(0, CHANCE, 0);
        x.mend(1, CHANCE, 8);
        Due.due("none below", x.drawn(1, 2, 0), 36);
        Due.due("none goes", x.drawn(1, 2, 1), 2);
        x.mend(0, CHANCE, 1);
        Due.due("in the second drive alone", x.drawn(1, 2, 1), 1);
        x.mend(1, 2, 6);
        x.mend(1, CHANCE, 12);
        x.mend(0, CHANCE, 0);
        Due.due("left ones cost", x.drawn(1, 2, 0), 56);
        Due.due("left ones are no going", x.drawn(1, 2, 1), 2);
        int[][] bad = {{0, 0}, {31, 0}, {-1, 0}, {Integer.MIN_VALUE, 0}, {1, 2}, {1, -1}};
        for (int[] pair : bad) {
            Due.due("drawn(1, " + pair[0] + ", " + pair[1] + ")", x.drawn(1, pair[0], pair[1]), BackHouse.BAD);
        }
    }
}
