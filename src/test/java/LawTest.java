/** Promises 6 and 7: feed, law; and what the law gives a going. */
public final class LawTest {
    public static void main(String[] args) {
        feed();
        tapeIsFull();
        faults();
        lawsThatStand();
        values();
        signsByThemselves();
        lines();
        heldMinutes();
        names();
        aFaultLeavesTheLaw();
        Due.close();
    }

    private static void feed() {
        BackHouse x = new BackHouse();
        Due.due("feed(0)", x.feed(0), 1);
        Due.due("feed(255)", x.feed(255), 2);
        Due.due("feed(-1)", x.feed(-1), BackHouse.BAD);
        Due.due("feed(256)", x.feed(256), BackHouse.BAD);
        Due.due("feed(MIN)", x.feed(Integer.MIN_VALUE), BackHouse.BAD);
        Due.due("count(1)", x.count(1), 2);
    }

    private static void tapeIsFull() {
        BackHouse x = new BackHouse();
        for (int i = 1; i <= 120; i++) {
            Due.due("byte " + i, x.feed(i % 2 == 1 ? 'n' : '+'), i);
        }
        Due.due("byte 121", x.feed('n'), BackHouse.FULL);
        Due.due("a bad byte on a full tape", x.feed(256), BackHouse.BAD);
        Due.due("120 bytes that end too early", x.law(), -220);
        Due.due("the tape is empty then", x.count(1), 0);
        StringBuilder longest = new StringBuilder("10");
        for (int i = 0; i < 59; i++) {
            longest.append("+n");
        }
        x.thing(12, 0);
        Due.due("120 bytes that are a law", Houses.law(x, longest.toString()), 1);
        Due.due("59 operations", x.going(1, 0, 2), 60);
    }

    private static void faults() {
        String[] texts = {"", "n", "+", "n+", "n*", "n|", "n&", "n<", "n?", "n;", "?", ";", ";n", "n?p?k", "n?;", "n??",
            "(n", "(", ")", "n)", "(n))", "(n?p)", "(n;p)", "()", "12345", "1234p", "1 ", " 1", "n n", "nn", "np", "1n",
            "n1", "(n)(", "(n)n", "n<p<k", "n<p=k", "n=p>k", "n<p&k<w<s", "!", "-", "n!", "n--", "n<<p", "n==p", "n||p",
            "n+*p", "n+%", "*n", "/n", "%n", "x", "n;x", "n?x", "N", "\0", "n\377", "!!!!!!!n", "-------n", "(((((((n",
            "!-(!-(-n", "((((((n)))))", "((((((n", "n+!!!!!!p;((((((-", "!!!!!!", "0000;00000", "n?!!!!!!!n"};
        int[] places = {0, -1, 0, 2, 2, 2, 2, 2, 2, 2, 0, 0, 0, 3, 2, 2,
            2, 1, 0, 1, 3, 2, 2, 1, 4, 4, 1, 0, 1, 1, 1, 1,
            1, 3, 3, 3, 3, 3, 7, 1, 1, 1, 3, 2, 2, 2,
            2, 2, 0, 0, 0, 0, 2, 2, 0, 0, 1, 6, 6, 6,
            6, 12, 7, 16, 6, 9, 8};
        BackHouse x = new BackHouse();
        for (int i = 0; i < texts.length; i++) {
            Due.due("law " + texts[i], Houses.law(x, texts[i]), places[i] < 0 ? 1 : -100 - places[i]);
            Due.due("the tape behind " + texts[i], x.count(1), 0);
        }
    }

    private static void lawsThatStand() {
        String[] texts = {"0", "9999", "n", "p", "k", "w", "s", "!n", "-n", "(n)", "n?p", "n;p", "n?p;k?w;s",
            "n<p", "n=p", "n>p", "n<p|k<w", "n<p&k=w", "n--p", "n-!p", "n*-p", "(n<p)<k", "!!!!!!n", "------n",
            "((((((n))))))", "!!!!!!n+!!!!!!n", "(((n)))+((((((n))))))", "!(-(!(n)))", "n+p-k*w/s%n&n|k", "0001",
            "!!!!!!n?!!!!!!n;!!!!!!n", "((((((n))))))*((((((n))))))<((((((n))))))"};
        BackHouse x = new BackHouse();
        for (String text : texts) {
            Due.due("law " + text, Houses.law(x, text), 1);
        }
    }

    /** Whether the law gives a thing of WORTH 10 by PACE 2 at the house just this value. */
    private static void value(String expression, String wanted) {
        BackHouse x = new BackHouse();
        x.thing(12, 0);
        Due.due("law " + expression, Houses.law(x, "(" + expression + ")=(" + wanted + ")?2;3"), 1);
        Due.due(expression + " is " + wanted, x.going(1, 0, 2), 2);
    }

    private static void values() {
        String[][] pairs = {{"7", "7"}, {"0012", "12"}, {"1+2*3", "7"}, {"(1+2)*3", "9"}, {"9-4-3", "2"}, {"9-(4-3)", "8"},
            {"20/3/2", "3"}, {"20%7*2", "12"}, {"2*7%4", "2"}, {"-7/2", "-3"}, {"-7%2", "-1"}, {"7/-2", "-3"},
            {"7/0", "0"}, {"7%0", "0"}, {"0/0", "0"}, {"!0", "1"}, {"!5", "0"}, {"!!5", "1"}, {"!-5", "0"}, {"-!0", "-1"},
            {"--5", "5"}, {"3<4", "1"}, {"4<4", "0"}, {"4=4", "1"}, {"4=5", "0"}, {"5>4", "1"}, {"4>4", "0"},
            {"-1<0", "1"}, {"3&4", "1"}, {"3&0", "0"}, {"0&3", "0"}, {"0|0", "0"}, {"0|7", "1"}, {"7|0", "1"},
            {"1|0&0", "1"}, {"(1|0)&0", "0"}, {"2&3<1", "0"}, {"1+1<3", "1"}, {"2<1+1", "0"}, {"!1+1", "1"}, {"!(1+1)", "0"},
            {"-2+5", "3"}, {"-(2+5)", "0-7"}, {"2--3", "5"}, {"!0*5", "5"}, {"(5|0)+(3&2)", "2"},
            {"9999*9999*9999*9999", "9999*9999*(9999*9999)"}, {"9999*9999*9999<0", "1"}, {"9999*9999*99<0", "0"}};
        for (String[] pair : pairs) {
            value(pair[0], pair[1]);
        }
    }

    private static int minutes(String text) {
        BackHouse x = new BackHouse();
        x.thing(12, 0);
        Due.due("law " + text, Houses.law(x, text), 1);
        return x.going(1, 0, 2);
    }

    /** Without the sign = of value(): a broken one would hide there. */
    private static void signsByThemselves() {
        String[] texts = {"4=5?2;3", "5=5?2;3", "4<5?2;3", "5<5?2;3", "5>4?2;3", "5>5?2;3", "0|0?2;3", "0|9?2;3",
            "9&0?2;3", "9&9?2;3", "!9?2;3", "!0?2;3", "3+4", "9-4-3", "3*4", "20/3", "20%7", "9-(4=5)", "-4+9"};
        int[] want = {3, 2, 2, 3, 2, 3, 3, 2, 3, 2, 3, 2, 7, 2, 12, 6, 6, 9, 5};
        for (int i = 0; i < texts.length; i++) {
            Due.due(texts[i], minutes(texts[i]), want[i]);
        }
    }

    private static void lines() {
        Due.due("the first line that counts", minutes("0?9;1?8;7"), 8);
        Due.due("a line without a first E", minutes("0?9;7;1?8"), 7);
        Due.due("a first E below 0", minutes("-1?9;7"), 9);
        Due.due("none counts", minutes("0?9;0?8"), 1);
        Due.due("a line that gives 0 counts", minutes("0;9"), 1);
        Due.due("a second E that gives 0 counts", minutes("1?0;9"), 1);
        Due.due("behind a line that counts not", minutes("0?9;5"), 5);
    }

    private static void heldMinutes() {
        Due.due("60", minutes("60"), 60);
        Due.due("61", minutes("61"), 60);
        Due.due("9999", minutes("9999"), 60);
        Due.due("1", minutes("1"), 1);
        Due.due("0", minutes("0"), 1);
        Due.due("-5", minutes("-5"), 1);
        // 60000^2 is 3600000000, which wraps to -694967296.
        Due.due("an int that wraps", minutes("6000*10*6000*10"), 1);
    }

    private static void names() {
        BackHouse x = new BackHouse();
        x.thing(112, 0);
        x.thing(212, 4);
        x.mend(1, 5, 5);
        x.mend(0, 3, 37);
        x.mend(1, 3, 58);
        Due.due("without a text: p and n, 0", x.going(3, 0, 2), 6);
        Due.due("without a text: p and n, 1", x.going(3, 1, 2), 3);
        Due.due("without a text, aloud", x.aloud(3, 1), 18 + 7);
        String[] texts = {"n", "p", "k+9", "w", "s+9"};
        int[] first = {1, 5, 9, 37, 9};
        int[] second = {1, 2, 10, 58, 13};
        int[] aloud = {2, 5, 9, 60, 9};
        for (int i = 0; i < texts.length; i++) {
            Houses.law(x, texts[i]);
            Due.due(texts[i] + " of going 0", x.going(3, 0, 2), first[i]);
            Due.due(texts[i] + " of going 1", x.going(3, 1, 2), second[i]);
            Due.due(texts[i] + " aloud", x.aloud(3, 1), 18 + aloud[i]);
        }
        Houses.law(x, "w=95");
        Due.due("all worth aloud is 95", x.aloud(3, 0), 18 + 1);
        Houses.law(x, "w-35");
        Due.due("all worth aloud", x.aloud(3, 0), 18 + 60);
        Due.due("the worth of one", x.aloud(1, 0), 18 + 2);
    }

    private static void aFaultLeavesTheLaw() {
        BackHouse x = new BackHouse();
        x.thing(12, 0);
        Houses.law(x, "7");
        Due.due("a fault", Houses.law(x, "8+"), -102);
        Due.due("the law as it was", x.going(1, 0, 2), 7);
        Due.due("an empty tape", x.law(), -100);
        Due.due("the law as it was still", x.going(1, 0, 2), 7);
        Due.due("another law", Houses.law(x, "8"), 1);
        Due.due("the other law", x.going(1, 0, 2), 8);
    }
}
