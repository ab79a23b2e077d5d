/** Each sentence on drives told back that names an edge, in a test of its own: promises 17 and 18. */
public final class ToldBackEdgesTest {
    private static final int BAD = BackHouse.BAD, NOT = BackHouse.NOT;
    private static final int FAR = Integer.MAX_VALUE, FAR_BELOW = Integer.MIN_VALUE;

    public static void main(String[] args) {
        justSo();
        whoWent();
        howManyMinutes();
        oneThatLacks();
        oneTooMuch();
        aTwosEndThatLacks();
        theFirstTwo();
        bytesThatAreBelowZero();
        longestRow();
        judgeIsBad();
        judgeOfNothing();
        judgeOfNoBytes();
        howMany();
        theLeastNumber();
        sure();
        sureOfNone();
        whichOfNoThings();
        whichIsBad();
        whichOfNothing();
        whichOfNoBytes();
        Due.close();
    }

    /** 0 by person 1 in 3 minutes, 1 by person 5 in 10, 2 by person 2 in 3 from stop 6, 3 left at stop 4. */
    private static BackHouse house() {
        BackHouse x = Houses.withThings(100, 0, 500, 0, 200, 6, 300, 4);
        x.mend(5, 5, 9);
        x.mend(2, 3, 99);
        return x;
    }

    private static void judged(BackHouse x, int told, int want, int... bytes) {
        Houses.row(x, 5, 0, bytes);
        Due.due("judge(5, " + told + ") of " + java.util.Arrays.toString(bytes), x.judge(5, told), want);
    }

    private static void justSo() {
        Due.sentence("by twos who went, how many minutes it took: GOINGS of a DRIVE in their order");
        BackHouse x = house();
        judged(x, 0, NOT);
        judged(x, 8, NOT);
        judged(x, 1, NOT, 1, 3);
        judged(x, 2, NOT, 5, 10);
        judged(x, 7, NOT, 1, 3, 5, 10, 2, 3);
        judged(x, 15, NOT, 1, 3, 5, 10, 2, 3);
        BackHouse eight = Houses.withThings(0, 0, 0, 0, 0, 0, 0, 0, 0, 0, 0, 0, 0, 0, 0, 0);
        judged(eight, 255, NOT, 0, 3, 0, 3, 0, 3, 0, 3, 0, 3, 0, 3, 0, 3, 0, 3);
    }

    private static void whoWent() {
        Due.sentence("who went");
        for (int who = -1; who <= 6; who++) {
            judged(house(), 2, who == 5 ? NOT : 0, who, 10);
            judged(house(), 3, who == 5 ? NOT : 1, 1, 3, who, 10);
        }
    }

    private static void howManyMinutes() {
        Due.sentence("how many minutes it took");
        for (int minutes = 8; minutes <= 12; minutes++) {
            judged(house(), 2, minutes == 10 ? NOT : 0, 5, minutes);
        }
        BackHouse x = house();
        Houses.law(x, "60");
        judged(x, 2, NOT, 5, 60);
        judged(x, 2, 0, 5, 61);
    }

    private static void oneThatLacks() {
        Due.sentence("the first two that is not so (one that lacks");
        BackHouse x = house();
        judged(x, 1, 0);
        judged(x, 7, 0);
        judged(x, 7, 1, 1, 3);
        judged(x, 7, 2, 1, 3, 5, 10);
        BackHouse eight = Houses.withThings(0, 0, 0, 0, 0, 0, 0, 0, 0, 0, 0, 0, 0, 0, 0, 0);
        judged(eight, 255, 7, 0, 3, 0, 3, 0, 3, 0, 3, 0, 3, 0, 3, 0, 3);
    }

    private static void oneTooMuch() {
        Due.sentence("or is too much, too");
        BackHouse x = house();
        judged(x, 0, 0, 0, 0);
        judged(x, 0, 0, 1, 3);
        judged(x, 8, 0, 3, 3);
        judged(x, 1, 1, 1, 3, 5, 10);
        judged(x, 7, 3, 1, 3, 5, 10, 2, 3, 0, 0);
        BackHouse eight = Houses.withThings(0, 0, 0, 0, 0, 0, 0, 0, 0, 0, 0, 0, 0, 0, 0, 0);
        judged(eight, 255, 8, 0, 3, 0, 3, 0, 3, 0, 3, 0, 3, 0, 3, 0, 3, 0, 3, 0, 3);
    }

    private static void aTwosEndThatLacks() {
        Due.sentence("a two's end that lacks is not so");
        BackHouse x = house();
        judged(x, 0, 0, 1);
        judged(x, 1, 0, 1);
        judged(x, 1, 1, 1, 3, 1);
        judged(x, 3, 1, 1, 3, 5);
        judged(x, 7, 2, 1, 3, 5, 10, 2);
        judged(x, 7, 3, 1, 3, 5, 10, 2, 3, 0);
    }

    private static void theFirstTwo() {
        Due.sentence("JUDGED with told THINGS forgotten: the first two that is not so");
        BackHouse x = house();
        judged(x, 7, 0, 0, 3, 0, 10, 0, 3);
        judged(x, 7, 1, 1, 3, 0, 10, 0, 3, 0);
        judged(x, 7, 1, 1, 3, 2, 3, 5, 10);
        judged(x, 7, 0, 5, 10, 1, 3, 2, 3);
    }

    private static void bytesThatAreBelowZero() {
        Due.sentence("a ROW of bytes on a SHELF");
        BackHouse x = house();
        judged(x, 1, NOT, 257, -253);
        judged(x, 1, 0, 1, -3);
        judged(x, 1, 0, -1, 3);
        judged(x, 1, 0, 129, 3);
        judged(x, 1, 0, 1, 131);
    }

    private static void longestRow() {
        Due.sentence("of 0 .. 60 elements");
        BackHouse x = Houses.withThings(0, 0, 0, 0, 0, 0, 0, 0, 0, 0, 0, 0, 0, 0, 0, 0);
        int[] bytes = new int[60];
        judged(x, 0, 0, bytes);
        judged(x, 255, 0, bytes);
        for (int i = 1; i < 60; i += 2) {
            bytes[i] = 3;
        }
        Houses.row(x, 5, 0, bytes);
        for (int told = 0, many = 0; many <= 8; many++, told = 2 * told + 1) {
            Due.due("judge(5, " + told + ")", x.judge(5, told), many);
        }
    }

    private static void judgeIsBad() {
        Due.sentence("JUDGED. BAD, -11, -12 (no ROW of bytes); NOT.");
        BackHouse x = house();
        for (int shelf : new int[] {-1, 6, FAR, FAR_BELOW}) {
            Due.due("judge(" + shelf + ", 0)", x.judge(shelf, 0), BAD);
        }
        x.row(1, 4, 2);
        for (int told : new int[] {-1, 16, FAR, FAR_BELOW}) {
            Due.due("BAD is named first, of nothing", x.judge(0, told), BAD);
            Due.due("BAD is named first, of a row", x.judge(1, told), BAD);
        }
    }

    private static void judgeOfNothing() {
        Due.sentence("-11 nothing is there where something is wanted");
        BackHouse x = house();
        for (int shelf = 0; shelf < 6; shelf++) {
            Due.due("judge(" + shelf + ", 15)", x.judge(shelf, 15), -11);
        }
        x.row(0, 0, 0);
        x.keep(0, -1);
        Due.due("judge(0, 0)", x.judge(0, 0), -11);
    }

    private static void judgeOfNoBytes() {
        Due.sentence("-12 (no ROW of bytes)");
        BackHouse x = house();
        for (int sort = 1; sort <= 4; sort++) {
            x.row(0, sort, 0);
            Due.due("judge(0, 0) of sort " + sort, x.judge(0, 0), -12);
        }
        x.keep(0, x.body(0));
        Due.due("judge(0, 0) of a body", x.judge(0, 0), -12);
    }

    private static void whichIs(BackHouse x, int many, int least, int sure) {
        Due.due("which(5, 0)", x.which(5, 0), many);
        Due.due("which(5, 1)", x.which(5, 1), least);
        Due.due("which(5, 2)", x.which(5, 2), sure);
    }

    private static void howMany() {
        Due.sentence("WHICH: of all sets of THINGS those by which it is just so: how many");
        BackHouse x = Houses.withThings(0, 0, 0, 0, 0, 0, 0, 0, 0, 0, 0, 0, 0, 0, 0, 0);
        int[] many = {1, 8, 28, 56, 70, 56, 28, 8, 1, 0};
        for (int goings = 0; goings <= 9; goings++) {
            int[] bytes = new int[2 * goings];
            for (int i = 1; i < bytes.length; i += 2) {
                bytes[i] = 3;
            }
            Houses.row(x, 5, 0, bytes);
            whichIs(x, many[goings], goings > 8 ? NOT : (1 << goings) - 1, goings == 8 ? 255 : 0);
        }
        x.mend(0, 2, 6);
        Houses.row(x, 5, 0);
        whichIs(x, 2, 0, 0);
    }

    private static void theLeastNumber() {
        Due.sentence("the least number of them; NOT");
        BackHouse x = house();
        Houses.row(x, 5, 0, 5, 10, 2, 3);
        whichIs(x, 2, 6, 6);
        Houses.row(x, 5, 0, 2, 3);
        whichIs(x, 2, 4, 4);
        Houses.row(x, 5, 0, 2, 4);
        whichIs(x, 0, NOT, 0);
    }

    private static void sure() {
        Due.sentence("SURE: THINGS (bits) in all of them");
        BackHouse x = Houses.withThings(0, 0, 100, 0, 0, 0);
        Houses.row(x, 5, 0, 0, 3, 1, 3);
        whichIs(x, 1, 3, 3);
        Houses.row(x, 5, 0, 0, 3);
        whichIs(x, 2, 1, 0);
        x.mend(0, 4, 2);
        Houses.row(x, 5, 0, 1, 3, 0, 3);
        whichIs(x, 1, 6, 6);
        BackHouse alike = Houses.withThings(100, 0, 0, 0, 0, 0);
        Houses.row(alike, 5, 0, 1, 3, 0, 3);
        whichIs(alike, 2, 3, 1);
    }

    private static void sureOfNone() {
        Due.sentence("in all of them (0: none)");
        BackHouse x = house();
        for (int[] bytes : new int[][] {{0}, {1}, {1, 2}, {5, 10, 1, 3}, {1, 3, 1, 3}, {1, 3, 5, 10, 2}, new int[60]}) {
            Houses.row(x, 5, 0, bytes);
            whichIs(x, 0, NOT, 0);
        }
    }

    private static void whichOfNoThings() {
        Due.sentence("of all sets of THINGS");
        BackHouse x = new BackHouse();
        Houses.row(x, 5, 0);
        whichIs(x, 1, 0, 0);
        Houses.row(x, 5, 0, 0);
        whichIs(x, 0, NOT, 0);
    }

    private static void whichIsBad() {
        Due.sentence("WHICH: how many (what 0), the least number (1; NOT), SURE (2). BAD, -11, -12.");
        BackHouse x = house();
        for (int shelf : new int[] {-1, 6, FAR, FAR_BELOW}) {
            Due.due("which(" + shelf + ", 0)", x.which(shelf, 0), BAD);
        }
        x.row(1, 4, 2);
        for (int what : new int[] {-1, 3, FAR, FAR_BELOW}) {
            Due.due("BAD is named first, of nothing", x.which(0, what), BAD);
            Due.due("BAD is named first, of a row", x.which(1, what), BAD);
        }
    }

    private static void whichOfNothing() {
        Due.sentence("-11 nothing is there where something is wanted");
        BackHouse x = house();
        for (int what = 0; what < 3; what++) {
            Due.due("which(4, " + what + ")", x.which(4, what), -11);
        }
    }

    private static void whichOfNoBytes() {
        Due.sentence("-12 it is of another kind");
        BackHouse x = house();
        for (int what = 0; what < 3; what++) {
            for (int sort = 1; sort <= 4; sort++) {
                x.row(0, sort, 0);
                Due.due("which(0, " + what + ") of sort " + sort, x.which(0, what), -12);
            }
            x.keep(0, x.body(0));
            Due.due("which(0, " + what + ") of a body", x.which(0, what), -12);
        }
    }
}
