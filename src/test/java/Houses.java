/** Objects with things, laws and rows, as the tests want them. */
final class Houses {
    private Houses() {
    }

    /** Things by twos: whose and chance, stop. */
    static BackHouse withThings(int... pairs) {
        BackHouse x = new BackHouse();
        for (int i = 0; i + 1 < pairs.length; i += 2) {
            x.thing(pairs[i], pairs[i + 1]);
        }
        return x;
    }

    /** What law() answers behind a text. */
    static int law(BackHouse x, String text) {
        for (int i = 0; i < text.length(); i++) {
            x.feed(text.charAt(i));
        }
        return x.law();
    }

    /** What law() answers behind a text on a new object. */
    static int law(String text) {
        return law(new BackHouse(), text);
    }

    /** What a law gives a going at the house for a thing of WORTH 10 by PACE 2; 0, if the text has a fault. */
    static int minutes(String text) {
        BackHouse x = withThings(12, 0);
        return law(x, text) == 1 ? x.going(1, 0, 2) : 0;
    }

    static void row(BackHouse x, int shelf, int sort, int... elements) {
        x.row(shelf, sort, elements.length);
        for (int i = 0; i < elements.length; i++) {
            x.put(shelf, i, elements[i]);
        }
    }

    /** Drives on until the drive is over. */
    static void toTheEnd(BackHouse x) {
        for (int i = 0; i < 7 && x.led(6) != BackHouse.NOT; i++) {
            x.on();
        }
    }
}
