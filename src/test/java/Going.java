import java.util.List;

/** The document's kinds as Java's own kinds, so that Java finds the bodies. */
class Going implements Goes, Tells {
    private final int number;
    private final List<Integer> ran;

    Going(int number, List<Integer> ran) {
        this.number = number;
        this.ran = ran;
    }

    static Going of(int kind, int number, List<Integer> ran) {
        switch (kind) {
            case 0: return new Going(number, ran);
            case 1: return new Quick(number, ran);
            case 2: return new Long(number, ran);
            case 3: return new Set(number, ran);
            case 4: return new Asked(number, ran);
            case 5: return new Listed(number, ran);
            case 6: return new Left(number, ran);
            default: return new Last(number, ran);
        }
    }

    @Override
    public void runs(int body) {
        ran.add(body);
    }

    @Override
    public int number() {
        return number;
    }

    @Override
    public int finds(int x) {
        runs(10);
        return goes(x) * 2;
    }

    @Override
    public int sets(int x) {
        runs(11);
        return x ^ number;
    }

    static class Quick extends Going {
        Quick(int number, List<Integer> ran) {
            super(number, ran);
        }

        @Override
        public int goes(int x) {
            runs(20);
            return super.goes(x) + 3;
        }
    }

    static class Long extends Going {
        Long(int number, List<Integer> ran) {
            super(number, ran);
        }

        @Override
        public int finds(int x) {
            runs(30);
            return -super.finds(x);
        }
    }

    static class Set extends Long {
        Set(int number, List<Integer> ran) {
            super(number, ran);
        }

        @Override
        public int sets(int x) {
            runs(40);
            return super.sets(x) * 3;
        }

        @Override
        public int finds(int x) {
            runs(41);
            return super.finds(x + 1);
        }
    }

    static class Asked extends Quick {
        Asked(int number, List<Integer> ran) {
            super(number, ran);
        }

        @Override
        public int tells(int x) {
            runs(50);
            return super.tells(x) ^ 5;
        }
    }

    static class Listed extends Set {
        Listed(int number, List<Integer> ran) {
            super(number, ran);
        }

        @Override
        public int sets(int x) {
            runs(60);
            return super.sets(x) - goes(2);
        }

        @Override
        public int tells(int x) {
            runs(61);
            return super.tells(x) + 1;
        }
    }

    static class Left extends Going {
        Left(int number, List<Integer> ran) {
            super(number, ran);
        }

        @Override
        public int goes(int x) {
            runs(70);
            return super.goes(x) * 2;
        }
    }

    static class Last extends Left {
        Last(int number, List<Integer> ran) {
            super(number, ran);
        }

        @Override
        public int finds(int x) {
            runs(80);
            return super.finds(x) + sets(2);
        }

        @Override
        public int goes(int x) {
            runs(81);
            return super.goes(x) - 1;
        }
    }
}

interface Goes {
    void runs(int body);

    int number();

    default int goes(int x) {
        runs(1);
        return x + number();
    }
}

interface Tells {
    void runs(int body);

    int finds(int x);

    int sets(int x);

    default int tells(int x) {
        runs(2);
        return finds(x) - sets(1);
    }
}
