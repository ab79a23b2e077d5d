/** Holds answers against those that are due; each test prints what is wrong and ends with 1 if there was one. */
final class Due {
    private static int wrong = 0;
    private static int held = 0;

    private Due() {
    }

    static void due(String call, long got, long want) {
        held++;
        if (got != want) {
            wrong++;
            System.out.println(call + " answered " + got + ", due is " + want);
        }
    }

    static void close() {
        System.out.println(held + " answers held, " + wrong + " wrong");
        if (wrong != 0 || held == 0) {
            System.exit(1);
        }
    }
}
