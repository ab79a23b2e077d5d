/** Promises 17 and 18: judge, which. */
public final class ToldBackTest {
    public static void main(String[] args) {
        judge();
        judgeOfNothing();
        which();
        whichOfNone();
        refusals();
        Due.close();
    }

    /** 0 by person 1 in 3 minutes, sets off 2; 1 by person 4 in 9; 2 by person 2 in 3, at stop 6; 3 is left. */
    private static BackHouse house() {
        BackHouse x = new BackHouse();
        x.thing(106, 0);
        x.thing(406, 0);
        x.thing(206, 6);
        x.thing(6, 1);
        x.mend(0, 4, 4);
        x.mend(4, 5, 8);
        x.mend(3, 3, 0);
        return x;
    }

    private static void judge() {
        BackHouse x = house();
        int[][] rows = {{1, 3, 4, 9, 2, 3}, {1, 3, 4, 9, 2, 4}, {1, 3, 4, 9, 3, 3}, {1, 3, 4, 9}, {1, 3, 4, 9, 2},
            {1, 3, 4, 9, 2, 3, 0}, {1, 3, 4, 9, 2, 3, 0, 3}, {4, 9, 1, 3, 2, 3}, {1, 2, 4, 9, 2, 3}, {}, {1}, {1, 3, 4},
            {1, 3, 2, 3, 4, 9}, {257, 259, 4, 9, 2, 3}, {1, 3, 4, -9, 2, 3}};
        int[] want = {BackHouse.NOT, 2, 2, 2, 2, 3, 3, 0, 0, 0, 0, 1, 1, BackHouse.NOT, 1};
        for (int i = 0; i < rows.length; i++) {
            Houses.row(x, 3, 0, rows[i]);
            Due.due("row " + i + " judged by 7", x.judge(3, 7), want[i]);
            Due.due("row " + i + " judged by 15", x.judge(3, 15), want[i]);
        }
        Houses.row(x, 5, 0, new int[60]);
        Due.due("sixty bytes", x.judge(5, 7), 0);
    }

    private static void judgeOfNothing() {
        BackHouse x = house();
        Houses.row(x, 0, 0);
        Due.due("no goings, no twos", x.judge(0, 0), BackHouse.NOT);
        Due.due("left is no going", x.judge(0, 8), BackHouse.NOT);
        Houses.row(x, 0, 0, 0);
        Due.due("a two's end lacks", x.judge(0, 0), 0);
        Houses.row(x, 0, 0, 0, 0);
        Due.due("too much", x.judge(0, 0), 0);
    }

    private static void whichIs(BackHouse x, int shelf, int many, int least, int sure) {
        Due.due("which(" + shelf + ", 0)", x.which(shelf, 0), many);
        Due.due("which(" + shelf + ", 1)", x.which(shelf, 1), least);
        Due.due("which(" + shelf + ", 2)", x.which(shelf, 2), sure);
    }

    private static void which() {
        BackHouse x = house();
        Houses.row(x, 1, 0, 4, 9);
        // 1 alone, or with 2 or 3 or both left behind.
        whichIs(x, 1, 4, 2, 2);
        Houses.row(x, 1, 0, 1, 3, 2, 3);
        whichIs(x, 1, 2, 5, 5);
        Houses.row(x, 1, 0);
        whichIs(x, 1, 4, 0, 0);
        x.mend(2, 0, 1);
        Houses.row(x, 1, 0, 1, 3);
        x.mend(2, 2, 0);
        // 0 or 2, each with 3 or without it: nothing is sure.
        whichIs(x, 1, 4, 1, 0);
        x.mend(3, 1, 0);
        whichIs(x, 1, 4, 1, 0);
    }

    private static void whichOfNone() {
        BackHouse x = house();
        Houses.row(x, 1, 0, 5, 9);
        whichIs(x, 1, 0, BackHouse.NOT, 0);
        Houses.row(x, 1, 0, 4, 9, 1);
        whichIs(x, 1, 0, BackHouse.NOT, 0);
        BackHouse none = new BackHouse();
        Houses.row(none, 0, 0);
        whichIs(none, 0, 1, 0, 0);
    }

    private static void refusals() {
        BackHouse x = house();
        Due.due("judge(6, 0)", x.judge(6, 0), BackHouse.BAD);
        Due.due("judge(-1, 0)", x.judge(-1, 0), BackHouse.BAD);
        Due.due("judge(0, 16) of nothing", x.judge(0, 16), BackHouse.BAD);
        Due.due("judge(0, -1) of nothing", x.judge(0, -1), BackHouse.BAD);
        Due.due("judge(0, 1) of nothing", x.judge(0, 1), -11);
        Due.due("which(6, 0)", x.which(6, 0), BackHouse.BAD);
        Due.due("which(-1, 0)", x.which(-1, 0), BackHouse.BAD);
        Due.due("which(0, 3) of nothing", x.which(0, 3), BackHouse.BAD);
        Due.due("which(0, -1) of nothing", x.which(0, -1), BackHouse.BAD);
        Due.due("which(0, 0) of nothing", x.which(0, 0), -11);
        for (int sort = 1; sort <= 4; sort++) {
            x.row(0, sort, 0);
            Due.due("judge of sort " + sort, x.judge(0, 0), -12);
            Due.due("which of sort " + sort, x.which(0, 0), -12);
        }
        x.keep(0, x.body(0));
        Due.due("judge of a body", x.judge(0, 0), -12);
        Due.due("which of a body", x.which(0, 0), -12);
    }
}
