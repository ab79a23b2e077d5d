/** Holds answers against those that are due; each test prints what is wrong and ends with 1 if there was one. */
final class Due {
    private static int wrong = 0;
    private static int held = 0;
    private static String sentence = "";

    private Due() {
    }

    /** The document's words that the answers behind it hold, so that a wrong one tells which broke. */
    static void sentence(String words) {
        sentence = words;
    }

    static void due(String call, long got, long want) {
        held++;
        if (got != want) {
            wrong++;
            String where = sentence.isEmpty() ? "" : " [" + sentence + "]";
            System.out.println(call + " answered " + got + ", due is " + want + where);
        }
    }

    static int held() {
        return held;
    }

    static void close() {
        System.out.println(held + " answers held, " + wrong + " wrong");
        if (wrong != 0 || held == 0) {
            System.exit(1);
        }
    }
}
