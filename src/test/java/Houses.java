/** Objects with things, laws and rows, as the tests want them. */
final class Houses {
    private Houses() {
    }

    /** Things by twos: whose and chance, stop. */
    static BackHouse withThings(int... pairs) {
        BackHouse x = new BackHouse();
        for (int i = 0; i + 1 < pairs.length; i += 2) {
            x.thing(pairs[i], pairs[i + 1]);
        }
        return x;
    }

    /** What law() answers behind a text. */
    static int law(BackHouse x, String text) {
        for (int i = 0; i < text.length(); i++) {
            x.feed(text.charAt(i));
        }
        return x.law();
    }

    static void row(BackHouse x, int shelf, int sort, int... elements) {
        x.row(shelf, sort, elements.length);
        for (int i = 0; i < elements.length; i++) {
            x.put(shelf, i, elements[i]);
        }
    }
}
