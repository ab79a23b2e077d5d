/** Each sentence on the tape and the law that names an edge, in a test of its own: promises 6 and 7. */
public final class LawEdgesTest {
    private static final int BAD = BackHouse.BAD, FULL = BackHouse.FULL, PACE = 5;

    public static void main(String[] args) {
        aByte();
        tapeOf120();
        linesOneOrMore();
        lineOfOneOrTwo();
        noneOrMoreBehind();
        oneComparison();
        oneToFourDigits();
        namesAndNothingElse();
        everyByteBehindAName();
        noBlanks();
        sixOpen();
        closedOnesDoNotCount();
        intsThatWrap();
        towardZero();
        byZero();
        oneOrZero();
        theFirstLineThatCounts();
        noneCounts();
        theFirstFault();
        endsTooEarly();
        heldWithin1And60();
        withoutAText();
        nOfOneAndAll();
        pOfWhoGoes();
        kOfGoingsAhead();
        allWorth();
        sOfTheStop();
        theTapeBecomesTheLaw();
        theTapeIsEmptyThen();
        Due.close();
    }

    private static void lawIs(String text, int want) {
        Due.due("law() of " + text, Houses.law(text), want);
    }

    private static void stand(String... texts) {
        for (String text : texts) {
            lawIs(text, 1);
        }
    }

    private static void faultAt(int place, String... texts) {
        for (String text : texts) {
            lawIs(text, -100 - place);
        }
    }

    private static void minutesAre(String text, int want) {
        Due.due("minutes by " + text, Houses.minutes(text), want);
    }

    private static void aByte() {
        Due.sentence("A byte (0 .. 255) comes to THE TAPE: how many it has. BAD");
        BackHouse x = new BackHouse();
        for (int letter : new int[] {-1, 256, Integer.MAX_VALUE, Integer.MIN_VALUE}) {
            Due.due("feed(" + letter + ")", x.feed(letter), BAD);
        }
        Due.due("feed(0)", x.feed(0), 1);
        Due.due("feed(255)", x.feed(255), 2);
        Due.due("count(1)", x.count(1), 2);
    }

    private static void tapeOf120() {
        Due.sentence("THE TAPE (at most 120 bytes) .. FULL (120)");
        BackHouse x = new BackHouse();
        for (int i = 1; i <= 120; i++) {
            Due.due("byte " + i, x.feed('n'), i);
        }
        Due.due("byte 121", x.feed('n'), FULL);
        Due.due("BAD is named first", x.feed(256), BAD);
        Due.due("count(1)", x.count(1), 120);
        BackHouse of120 = Houses.withThings(12, 0);
        Due.due("a law of 120", Houses.law(of120, "13" + "+n".repeat(10) + "+0".repeat(49)), 1);
        Due.due("its minutes", of120.going(1, 0, 2), 23);
        Due.due("a law of 119", Houses.law(of120, "n;".repeat(59) + "n"), 1);
    }

    private static void linesOneOrMore() {
        Due.sentence("LINES, one or more, parted by ;");
        stand("7", "7;7", "7;7;7", "0?1;".repeat(29) + "7");
        faultAt(0, "", ";", ";7");
        faultAt(2, "7;", "7;;7");
        minutesAre("0?1;".repeat(29) + "7", 7);
    }

    private static void lineOfOneOrTwo() {
        Due.sentence("LINE: E, or E ? E");
        stand("n", "n?n", "n?n;n?n", "n|n?n|n");
        faultAt(0, "?", "?n");
        faultAt(2, "n?", "n?;n", "n??n", "(n?n)");
        faultAt(3, "n?n?n");
    }

    private static void noneOrMoreBehind() {
        Due.sentence("E = A { | A }. A = B { & B }. .. S = P { + P, - P }. P = O { * O, / O, % O }.");
        for (String sign : new String[] {"|", "&", "+", "-", "*", "/", "%"}) {
            stand("n", "n" + sign + "n", "n" + sign + "n" + sign + "n", "n" + (sign + "n").repeat(59));
            faultAt(2, "n" + sign, "n" + sign + "*n", "n" + sign + ")");
        }
        faultAt(0, "|n", "&n", "+n", "*n", "/n", "%n");
        minutesAre("4+(0|0|5&5&0|0)", 4);
        minutesAre("4+(1|1&0)", 5);
        minutesAre("4+(2&3<1)", 4);
        minutesAre("4+(3<1+9*2)", 5);
        minutesAre("2+3*4-8/2/2-9%4%3", 11);
    }

    private static void oneComparison() {
        Due.sentence("B = S, or S < S, S = S, S > S.");
        for (String one : new String[] {"<", "=", ">"}) {
            stand("n" + one + "p", "n" + one + "p&k" + one + "w|n" + one + "s", "(n" + one + "p)" + one + "k");
            faultAt(0, one + "n");
            faultAt(2, "n" + one, "n" + one + one + "n");
            for (String other : new String[] {"<", "=", ">"}) {
                faultAt(3, "n" + one + "p" + other + "k");
            }
        }
    }

    private static void oneToFourDigits() {
        Due.sentence("O = a number (1 to 4 digits)");
        stand("0", "9", "00", "99", "000", "999", "0000", "9999");
        faultAt(4, "00000", "99999", "12345", "1234567");
        faultAt(11, "1+n*(2+12345)");
        minutesAre("9999-9940", 59);
        minutesAre("0047", 47);
        minutesAre("1234/100", 12);
    }

    private static void namesAndNothingElse() {
        Due.sentence("a NAME, ! O, - O, ( E )");
        for (char c = 0; c < 256; c++) {
            boolean stands = "npkws0123456789".indexOf(c) >= 0;
            boolean begins = "!-(".indexOf(c) >= 0;
            Due.due("law() of byte " + (int) c, Houses.law("" + c), stands ? 1 : begins ? -101 : -100);
        }
    }

    private static void everyByteBehindAName() {
        Due.sentence("the first byte with which no TEXT goes on");
        for (char c = 0; c < 256; c++) {
            boolean goesOn = "|&<=>+-*/%?;".indexOf(c) >= 0;
            Due.due("law() of n and byte " + (int) c, Houses.law("n" + c), goesOn ? -102 : -101);
            Due.due("law() of n, byte " + (int) c + ", n", Houses.law("n" + c + "n"), goesOn ? 1 : -101);
        }
    }

    private static void noBlanks() {
        Due.sentence("No blanks.");
        faultAt(0, " n", " ");
        faultAt(1, "n ", "n +n", "7 7");
        faultAt(2, "n+ n", "n; n");
        faultAt(1, "( n)", "n\n", "n\t");
    }

    private static void sixOpen() {
        Due.sentence("At most 6 of ( ! - ahead of an O are open at once.");
        stand("!!!!!!n", "------n", "((((((n))))))", "!-(!-(n))", "(!(!(!n)))", "n+!!!!!!n", "n|------n");
        faultAt(6, "!!!!!!!n", "-------n", "(((((((n", "!-(!-(!", "!-(!-(-", "!-(!-((", "(((((-(", "------(", "((((((!");
        faultAt(8, "n?!!!!!!!n", "n?-------n", "n?(((((((n", "n;!!!!!!!n", "n;((((((-n");
        faultAt(8, "n+!!!!!!!n", "n+((((((!n", "((((((n+-n", "((((((n+(n");
    }

    private static void closedOnesDoNotCount() {
        Due.sentence("are open at once");
        stand("!!!!!!n+!!!!!!n", "------n-------n", "((((((n))))))+((((((n))))))", "(!!!!!n)*(!!!!!n)", "((((((n)))))+!n)",
            "!n+!n+!n+!n+!n+!n+!n+!n", "n-n-n-n-n-n-n-n-n", "!!!!!!n;!!!!!!n?!!!!!!n", "(n)+(n)+(n)+(n)+(n)+(n)+(n)+(n)");
        faultAt(10, "((((((n)+!!n", "((((((n)*-(n");
        faultAt(11, "((((((n)+!n", "((((((n)*(n");
    }

    private static void intsThatWrap() {
        Due.sentence("Ints that wrap");
        // 2 to the 31st: the first that an int does not hold.
        String far = "8192*8192*32";
        minutesAre(far + "<0?2;3", 2);
        minutesAre(far + "-1>0?2;3", 2);
        minutesAre("(" + far + "-1)+1<0?2;3", 2);
        minutesAre("-(" + far + ")<0?2;3", 2);
        minutesAre(far + "*2=0?2;3", 2);
        minutesAre("9999*9999*9999<0?2;3", 2);
        minutesAre("8192*8192*64+7", 7);
        minutesAre(far + "/(0-1)<0?2;3", 2);
        minutesAre(far + "%(0-1)+7", 7);
    }

    private static void towardZero() {
        Due.sentence("/ and % toward 0");
        minutesAre("7/2", 3);
        minutesAre("9+-7/2", 6);
        minutesAre("9+7/-2", 6);
        minutesAre("9+-7/-2", 12);
        minutesAre("9+7%4", 12);
        minutesAre("9+-7%4", 6);
        minutesAre("9+7%-4", 12);
        minutesAre("9+-7%-4", 6);
    }

    private static void byZero() {
        Due.sentence("by 0 they give 0");
        minutesAre("7/0+5", 5);
        minutesAre("7%0+5", 5);
        minutesAre("-7/0+5", 5);
        minutesAre("0/0+5", 5);
        minutesAre("0%0+5", 5);
        minutesAre("7/(n-1)+5", 5);
    }

    private static void oneOrZero() {
        Due.sentence("| & < = > ! give 1, 0");
        String[] one = {"5|6", "5|0", "0|6", "5&6", "5<6", "-6<-5", "6=6", "6>5", "-5>-6", "!0", "!!7", "-1|0", "-1&-2"};
        String[] zero = {"0|0", "5&0", "0&6", "0&0", "6<5", "6<6", "5=6", "5>6", "6>6", "!7", "!-1", "!1", "!!0"};
        for (String e : one) {
            minutesAre("4+(" + e + ")", 5);
            minutesAre(e + "?7;8", 7);
        }
        for (String e : zero) {
            minutesAre("4+(" + e + ")", 4);
            minutesAre(e + "?7;8", 8);
        }
    }

    private static void theFirstLineThatCounts() {
        Due.sentence("The first LINE without a first E, or whose first E is not 0, counts");
        minutesAre("7;8", 7);
        minutesAre("0?7;8", 8);
        minutesAre("1?7;8", 7);
        minutesAre("-1?7;8", 7);
        minutesAre("0?7;0?8;9;1?10", 9);
        minutesAre("0?7;1?8;1?9", 8);
        minutesAre("0;8", 1);
        minutesAre("1?0;8", 1);
        minutesAre("n=1?7;8", 7);
    }

    private static void noneCounts() {
        Due.sentence("counts; none: 0.");
        minutesAre("0?9", 1);
        minutesAre("0?9;n-n?8;p>9?7", 1);
    }

    private static void theFirstFault() {
        Due.sentence("FAULT: the place (from 0) of the first byte with which no TEXT goes on");
        faultAt(0, "x", "xx", ")x", "=n");
        faultAt(1, "n)", "nn", "n(n", "(x)x", "()", "(;", "(?");
        faultAt(3, "n+px", "(n))", "n;n)", "n?nn", "n+p k x");
        faultAt(119, "n" + "+n".repeat(59) + "x", "n" + "+n".repeat(59) + ")");
    }

    private static void endsTooEarly() {
        Due.sentence("the length, if it ends too early.");
        faultAt(0, "");
        faultAt(1, "(", "!", "-");
        faultAt(2, "n+", "n;", "n?", "(n", "n|", "n<", "!!");
        faultAt(3, "((n", "(n+", "n?(", "n;-");
        faultAt(7, "(((n))+", "(((n))*", "((((n))");
        faultAt(120, "n+".repeat(60), "n;".repeat(60), "n" + "+n".repeat(59) + "*");
    }

    private static void heldWithin1And60() {
        Due.sentence("It gives its minutes (held within 1 .. 60).");
        int[][] pairs = {{0, 1}, {1, 1}, {2, 2}, {59, 59}, {60, 60}, {61, 60}, {9999, 60}};
        for (int[] pair : pairs) {
            minutesAre("" + pair[0], pair[1]);
            minutesAre("-" + pair[0], 1);
        }
        BackHouse x = Houses.withThings(12, 0, 12, 0);
        Houses.law(x, "99");
        Due.due("aloud, too", x.aloud(1, 0), 78);
        Due.due("aloud for both, too", x.aloud(3, 0), 78);
        Houses.law(x, "-9");
        Due.due("aloud, too", x.aloud(1, 0), 19);
        Due.due("aloud for both, too", x.aloud(3, 0), 19);
        Due.due("the minutes of the drive", x.drive(1, 0), 19);
    }

    private static void withoutAText() {
        Due.sentence("Without a text p and n.");
        BackHouse x = Houses.withThings(112, 0, 112, 0, 112, 0, 112, 0, 112, 0, 112, 0, 112, 0, 112, 0);
        for (int pace = 1; pace <= 9; pace++) {
            x.mend(1, PACE, pace);
            Due.due("going by pace " + pace, x.going(255, 7, 2), pace + 1);
            Due.due("aloud by pace " + pace, x.aloud(255, 1), 18 + pace + 8);
        }
        Due.due("behind a fault still", Houses.law(x, "9+"), -102);
        Due.due("going", x.going(1, 0, 2), 10);
    }

    private static void nOfOneAndAll() {
        Due.sentence("n how many THINGS");
        BackHouse x = Houses.withThings(12, 0, 12, 1, 12, 6);
        Houses.law(x, "n");
        Due.due("a going", x.going(3, 0, 2), 1);
        for (int told = 1; told < 8; told++) {
            Due.due("aloud(" + told + ", 0)", x.aloud(told, 0), 18 + Integer.bitCount(told));
        }
    }

    private static void pOfWhoGoes() {
        Due.sentence("p PACE of who goes");
        BackHouse x = Houses.withThings(0, 0, 100, 0, 200, 0, 300, 0, 400, 0, 500, 0);
        for (int person = 0; person < 6; person++) {
            x.mend(person, PACE, 9 - person);
        }
        Houses.law(x, "p*2");
        for (int person = 0; person < 6; person++) {
            Due.due("going(63, " + person + ", 2)", x.going(63, person, 2), 2 * (9 - person));
            Due.due("aloud(1, " + person + ")", x.aloud(1, person), 18 + 2 * (9 - person));
        }
    }

    private static void kOfGoingsAhead() {
        Due.sentence("k how many GOINGS there were ahead in this drive");
        BackHouse x = Houses.withThings(0, 0, 0, 0, 0, 0, 0, 0, 0, 2, 0, 2, 0, 6, 0, 6);
        for (int thing = 4; thing < 8; thing++) {
            x.mend(thing, 3, 99);
        }
        Houses.law(x, "k+5");
        for (int k = 0; k < 8; k++) {
            Due.due("going(255, " + k + ", 2)", x.going(255, k, 2), k + 5);
        }
        Due.due("aloud", x.aloud(255, 0), 18 + 5);
    }

    private static void allWorth() {
        Due.sentence("w all WORTH of these THINGS");
        BackHouse x = Houses.withThings(0, 0, 0, 0, 0, 0, 0, 0, 0, 0, 0, 0, 0, 0, 0, 0);
        for (int thing = 0; thing < 8; thing++) {
            x.mend(thing, 3, 99 - thing);
        }
        Houses.law(x, "w-90");
        for (int k = 0; k < 8; k++) {
            Due.due("going(255, " + k + ", 2)", x.going(255, k, 2), 9 - k);
        }
        Houses.law(x, "w-734");
        Due.due("all eight aloud", x.aloud(255, 0), 18 + 30);
        x.mend(0, 3, 0);
        Houses.law(x, "w+5");
        Due.due("a worth of 0", x.going(1, 0, 2), 5);
        Due.due("aloud", x.aloud(1, 0), 23);
    }

    private static void sOfTheStop() {
        Due.sentence("s the STOP from which one came back");
        for (int stop = 0; stop <= 6; stop++) {
            BackHouse x = Houses.withThings(0, stop, 0, 6);
            x.mend(0, 3, 99);
            x.mend(0, 4, 2);
            Houses.law(x, "s+5");
            Due.due("at " + stop, x.going(1, 0, 2), stop + 5);
            Due.due("set off at " + stop, x.going(3, 1, 2), stop + 5);
            Due.due("aloud", x.aloud(1, 0), 18 + 5);
        }
    }

    private static void theTapeBecomesTheLaw() {
        Due.sentence("THE TAPE becomes THE LAW: 1; -100 less its FAULT");
        BackHouse x = Houses.withThings(12, 0);
        Due.due("a long law", Houses.law(x, "1+2+3+4+5+6+7?11;12"), 1);
        Due.due("its minutes", x.going(1, 0, 2), 11);
        Due.due("a short law in its place", Houses.law(x, "9"), 1);
        Due.due("its minutes", x.going(1, 0, 2), 9);
        Due.due("a fault", Houses.law(x, "8;7;"), -104);
        Due.due("the law as it was", x.going(1, 0, 2), 9);
        Due.due("an empty tape", x.law(), -100);
        Due.due("the law as it was", x.going(1, 0, 2), 9);
        Due.due("mean(0) by the law", x.mean(0), 27);
        Due.due("another law", Houses.law(x, "10"), 1);
        Due.due("mean(0) by the other law", x.mean(0), 28);
        Due.due("the first one again", Houses.law(x, "9"), 1);
        Due.due("what was fed alone is no law", x.feed('5'), 1);
        Due.due("the law as it was", x.going(1, 0, 2), 9);
    }

    private static void theTapeIsEmptyThen() {
        Due.sentence("THE TAPE is empty then.");
        BackHouse x = new BackHouse();
        Due.due("a law", Houses.law(x, "n+1"), 1);
        Due.due("count(1)", x.count(1), 0);
        Due.due("a law once more", x.law(), -100);
        Due.due("the first byte", x.feed('n'), 1);
        Due.due("a law of it alone", x.law(), 1);
        Due.due("a fault", Houses.law(x, "n+"), -102);
        Due.due("count(1)", x.count(1), 0);
        Due.due("the first byte", x.feed('n'), 1);
        for (int i = 2; i <= 120; i++) {
            x.feed('!');
        }
        Due.due("FULL", x.feed('n'), FULL);
        Due.due("a fault", x.law(), -101);
        Due.due("the first byte", x.feed('n'), 1);
    }
}
