import java.math.BigInteger;
import java.util.ArrayList;
import java.util.Arrays;
import java.util.List;
import java.util.TreeSet;

/**
 * The document's drives and law once more, written in another way: sets and big
 * fractions, a law worked out from its text by splitting, faults by trying ends.
 */
final class Model {
    static final int WHOSE = 0, CHANCE = 1, STOP = 2, WORTH = 3, SETS_OFF = 4;

    final List<int[]> things = new ArrayList<>();
    final int[] pace = {2, 2, 2, 2, 2, 2};
    final int[] way = {3, 3, 3, 3, 3, 3};
    int price = 1;
    String law = null;

    /** One drive, as a whole or stop by stop. */
    final class Trip {
        final TreeSet<Integer> waiting = new TreeSet<>();
        final TreeSet<Integer> left = new TreeSet<>();
        final List<int[]> goings = new ArrayList<>();
        int minutes;
        int turns;
        int last;

        Trip(int told) {
            for (int i = 0; i < 8; i++) {
                if ((told >> i & 1) == 1) {
                    waiting.add(i);
                }
            }
        }

        Trip(Trip other) {
            waiting.addAll(other.waiting);
            left.addAll(other.left);
            goings.addAll(other.goings);
            minutes = other.minutes;
            turns = other.turns;
            last = other.last;
        }

        Trip whole() {
            for (int stop = 0; stop <= 6; stop++) {
                at(stop);
            }
            return this;
        }

        void at(int stop) {
            TreeSet<Integer> here = new TreeSet<>();
            int worth = 0;
            for (int thing : waiting) {
                if (things.get(thing)[STOP] == stop) {
                    here.add(thing);
                    worth += things.get(thing)[WORTH];
                }
            }
            int far = 0;
            for (int i = 0; i < stop; i++) {
                far += way[i];
            }
            waiting.removeAll(here);
            if (stop > 0 && worth <= price * 2 * far) {
                left.addAll(here);
                here.clear();
            } else if (stop > 0) {
                turns++;
                last = stop;
                minutes += far + far;
            }
            while (!here.isEmpty()) {
                int thing = here.pollFirst();
                int[] t = things.get(thing);
                int took = going(1, pace[t[WHOSE]], goings.size(), t[WORTH], stop);
                goings.add(new int[] {t[WHOSE], thing, took});
                minutes += took;
                for (int other : new ArrayList<>(waiting)) {
                    if ((t[SETS_OFF] >> other & 1) == 1) {
                        waiting.remove(other);
                        here.add(other);
                    }
                }
            }
            if (stop < 6) {
                minutes += way[stop];
            }
        }

        int leftBits() {
            int bits = 0;
            for (int thing : left) {
                bits += 1 << thing;
            }
            return bits;
        }

        int cost() {
            int cost = price * minutes;
            for (int thing : left) {
                cost += things.get(thing)[WORTH];
            }
            return cost;
        }
    }

    int going(int n, int p, int k, int w, int s) {
        int v = law == null ? p + n : new Text(law).work(n, p, k, w, s);
        return v < 1 ? 1 : v > 60 ? 60 : v;
    }

    int aloud(int told, int person) {
        int minutes = new Trip(0).whole().minutes;
        int worth = 0;
        for (int i = 0; i < things.size(); i++) {
            worth += (told >> i & 1) == 1 ? things.get(i)[WORTH] : 0;
        }
        return told == 0 ? minutes : minutes + going(Integer.bitCount(told), pace[person], 0, worth, 0);
    }

    /** How a set of drives counts: its number for each set of things. */
    interface Count {
        long of(int set);
    }

    /** The mean over all sets, where chances[i] of 144 is how often a thing is forgotten. */
    BigInteger[] mean(int[] chances, Count count) {
        BigInteger above = BigInteger.ZERO;
        for (int set = 0; set < 1 << chances.length; set++) {
            BigInteger weight = BigInteger.valueOf(count.of(set));
            for (int i = 0; i < chances.length && weight.signum() != 0; i++) {
                weight = weight.multiply(BigInteger.valueOf((set >> i & 1) == 1 ? chances[i] : 144 - chances[i]));
            }
            above = above.add(weight);
        }
        BigInteger below = BigInteger.valueOf(144).pow(chances.length);
        BigInteger common = above.gcd(below);
        return new BigInteger[] {above.divide(common), below.divide(common)};
    }

    int[] chances() {
        int[] chances = new int[things.size()];
        for (int i = 0; i < chances.length; i++) {
            chances[i] = 12 * things.get(i)[CHANCE];
        }
        return chances;
    }

    static boolean less(BigInteger[] a, BigInteger[] b) {
        return a[0].multiply(b[1]).compareTo(b[0].multiply(a[1])) < 0;
    }

    static long part(BigInteger[] fraction, int part) {
        return fraction[part].longValueExact();
    }

    Count costs() {
        int[] costs = new int[1 << things.size()];
        for (int set = 0; set < costs.length; set++) {
            costs[set] = new Trip(set).whole().cost();
        }
        return set -> costs[set];
    }

    long doorstep(int part) {
        BigInteger[] best = null;
        int thing = -1;
        Count costs = costs();
        for (int i = things.size() - 1; i >= 0; i--) {
            int[] chances = chances();
            chances[i] = 0;
            BigInteger[] mean = mean(chances, costs);
            if (best == null || !less(best, mean)) {
                best = mean;
                thing = i;
            }
        }
        return part == 2 ? thing : part(best, part);
    }

    long list(int most, int part) {
        BigInteger[] best = null;
        int list = -1;
        Count costs = costs();
        for (int set = 0; set < 1 << things.size(); set++) {
            int many = Integer.bitCount(set);
            if (many <= most) {
                int[] chances = chances();
                for (int i = 0; i < chances.length; i++) {
                    chances[i] = (set >> i & 1) == 1 ? chances[i] * many / 12 : chances[i];
                }
                BigInteger[] mean = mean(chances, costs);
                boolean alike = best != null && !less(best, mean) && !less(mean, best);
                if (best == null || less(mean, best) || alike && many < Integer.bitCount(list)) {
                    best = mean;
                    list = set;
                }
            }
        }
        return part == 2 ? list : part(best, part);
    }

    int judge(byte[] row, int told) {
        List<int[]> goings = new Trip(told).whole().goings;
        byte[] due = new byte[2 * goings.size()];
        for (int i = 0; i < goings.size(); i++) {
            due[2 * i] = (byte) goings.get(i)[0];
            due[2 * i + 1] = (byte) goings.get(i)[2];
        }
        int at = Arrays.mismatch(row, due);
        return at < 0 ? -2 : at / 2;
    }

    int chain(int thing) {
        TreeSet<Integer> brought = new TreeSet<>(List.of(thing));
        for (int before = 0; before < brought.size();) {
            before = brought.size();
            for (int from : new ArrayList<>(brought)) {
                for (int to = 0; to < things.size(); to++) {
                    if ((things.get(from)[SETS_OFF] >> to & 1) == 1) {
                        brought.add(to);
                    }
                }
            }
        }
        return brought.size();
    }

    /** A law's text, taken apart from its loosest signs inward. */
    static final class Text {
        private final String text;
        private int[] names;

        Text(String text) {
            this.text = text;
        }

        static boolean stands(String text) {
            for (String line : split(text, ";")) {
                List<String> parts = split(line, "?");
                if (parts.size() > 2) {
                    return false;
                }
                for (String part : parts) {
                    if (!stands(part, 0, 0)) {
                        return false;
                    }
                }
            }
            return true;
        }

        /** By trying ends: a beginning goes on, if some operand or none, and some brackets, make it a text. */
        static int fault(String text) {
            for (int length = 0; length <= text.length(); length++) {
                boolean goesOn = false;
                String ends = "))))))";
                for (int i = 0; i <= 6; i++) {
                    String begun = text.substring(0, length);
                    goesOn |= stands(begun + ends.substring(i)) || stands(begun + "n" + ends.substring(i));
                }
                if (!goesOn) {
                    return length - 1;
                }
            }
            return stands(text) ? -1 : text.length();
        }

        private static final String[] SIGNS = {"|", "&", "<=>", "+-", "*/%"};

        private static boolean stands(String e, int level, int open) {
            if (level == SIGNS.length) {
                return operandStands(e, open);
            }
            List<String> parts = split(e, SIGNS[level]);
            if (level == 2 && parts.size() > 2) {
                return false;
            }
            for (String part : parts) {
                if (!stands(part, level + 1, open)) {
                    return false;
                }
            }
            return true;
        }

        private static boolean operandStands(String o, int open) {
            if (o.matches("[0-9]{1,4}|[npkws]")) {
                return true;
            }
            if (o.isEmpty() || open == 6) {
                return false;
            }
            if (o.charAt(0) == '!' || o.charAt(0) == '-') {
                return operandStands(o.substring(1), open + 1);
            }
            return o.length() > 1 && o.charAt(0) == '(' && o.charAt(o.length() - 1) == ')'
                    && stands(o.substring(1, o.length() - 1), 0, open + 1);
        }

        /** Parts between signs outside of brackets; a minus parts only behind an operand. */
        private static List<String> split(String e, String signs) {
            List<String> parts = new ArrayList<>();
            int depth = 0;
            int from = 0;
            for (int i = 0; i < e.length(); i++) {
                char c = e.charAt(i);
                depth += c == '(' ? 1 : c == ')' ? -1 : 0;
                boolean ahead = c == '-' && (i == 0 || "0123456789npkws)".indexOf(e.charAt(i - 1)) < 0);
                if (depth == 0 && signs.indexOf(c) >= 0 && !ahead) {
                    parts.add(e.substring(from, i));
                    from = i + 1;
                }
            }
            parts.add(e.substring(from));
            return parts;
        }

        int work(int... values) {
            names = values;
            for (String line : split(text, ";")) {
                List<String> parts = split(line, "?");
                if (parts.size() == 1 || work(parts.get(0), 0) != 0) {
                    return work(parts.get(parts.size() - 1), 0);
                }
            }
            return 0;
        }

        private int work(String e, int level) {
            if (level == SIGNS.length) {
                return operand(e);
            }
            List<String> parts = split(e, SIGNS[level]);
            int value = work(parts.get(0), level + 1);
            int at = parts.get(0).length();
            for (String part : parts.subList(1, parts.size())) {
                value = both(e.charAt(at), value, work(part, level + 1));
                at += 1 + part.length();
            }
            return value;
        }

        private static int both(char sign, long a, long b) {
            boolean holds = sign == '|' && (a != 0 || b != 0) || sign == '&' && a != 0 && b != 0
                    || sign == '<' && a < b || sign == '=' && a == b || sign == '>' && a > b;
            if ("|&<=>".indexOf(sign) >= 0) {
                return holds ? 1 : 0;
            }
            if (b == 0 && (sign == '/' || sign == '%')) {
                return 0;
            }
            return (int) (sign == '+' ? a + b : sign == '-' ? a - b : sign == '*' ? a * b : sign == '/' ? a / b : a % b);
        }

        private int operand(String o) {
            int name = "npkws".indexOf(o.charAt(0));
            if (name >= 0) {
                return names[name];
            }
            switch (o.charAt(0)) {
                case '!': return operand(o.substring(1)) == 0 ? 1 : 0;
                case '-': return -operand(o.substring(1));
                case '(': return work(o.substring(1, o.length() - 1), 0);
                default: return Integer.parseInt(o);
            }
        }
    }
}
