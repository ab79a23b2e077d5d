/**
 * Once more back into the house: people in a car, things that are forgotten,
 * and what it costs to turn round for them. ../shared/DOC.md is the promise.
 *
 * Everything that a call needs is made in the constructor and used again: the
 * calls of a run share one room, so no call makes an object.
 */
public final class BackHouse {
    public static final int BAD = -1, NOT = -2, FULL = -3, STATE = -5, VOID = -2000000000;

    private static final int NOTHING_THERE = -11, OTHER_KIND = -12, NO_PLACE = -13, BELOW_ZERO = -14;
    private static final int MOST_THINGS = 8, PERSONS = 6, LAST_STOP = 6, SHELVES = 6;
    private static final int WHOSE = 0, CHANCE = 1, STOP = 2, WORTH = 3, SETS_OFF = 4;
    private static final int PACE = 5, WAY = 6, PRICE = 7, NUMBERS = 8;
    private static final int MOST_DRAWS = 30, LONGEST_LIST = 3;

    private final World world;
    private final Changes changes;
    private final Reader reader;
    private final Drive thought;
    private final Table table;
    private final Draw draw;
    private final Journey journey;
    private final Acts acts;
    private final Shelf[] shelves;

    public BackHouse() {
        World one = new World();
        world = one;
        changes = new Changes();
        reader = new Reader();
        thought = new Drive(one);
        table = new Table(one);
        draw = new Draw();
        journey = new Journey(one);
        acts = new Acts();
        shelves = new Shelf[SHELVES];
        for (int i = 0; i < shelves.length; i++) {
            shelves[i] = new Shelf();
        }
    }

    // ---- people, things

    public int thing(int wc, int stop) {
        int whose = wc / 100;
        int chance = wc % 100;
        if (wc < 0 || !World.may(WHOSE, whose) || !World.may(CHANCE, chance) || !World.may(STOP, stop)) {
            return BAD;
        }
        return world.add(whose, chance, stop, 10);
    }

    public int things(int shelf, int i, int n) {
        Shelf row = shelfAt(shelf);
        if (row == null || n < 1 || n > MOST_THINGS) {
            return BAD;
        }
        if (row.holds == Shelf.NOTHING) {
            return 0;
        }
        if (!row.holdsBytes()) {
            return OTHER_KIND;
        }
        if (i < 0 || i >= Shelf.MOST) {
            return 0;
        }
        int came = 0;
        for (int four = 0; four < n; four++) {
            if (!thingCame(row, i + 4 * four)) {
                break;
            }
            came++;
        }
        return came;
    }

    public int mend(int number, int what, int v) {
        if (!world.has(what, number) || !World.may(what, v)) {
            return BAD;
        }
        int was = world.value(what, number);
        if (was != v) {
            changes.note(what, number, was, v);
            world.become(what, number, v);
        }
        return was;
    }

    public int of(int number, int what) {
        return world.has(what, number) ? world.value(what, number) : BAD;
    }

    public int feed(int letter) {
        return letter < 0 || letter > 255 ? BAD : reader.take(letter);
    }

    public int law() {
        int fault = reader.read();
        if (fault >= 0) {
            return -100 - fault;
        }
        world.obey(reader);
        return 1;
    }

    // ---- drives in thought

    public int drive(int told, int what) {
        if (!world.knows(told) || what < 0 || what > 4) {
            return BAD;
        }
        thought.wholeWith(told);
        switch (what) {
            case 0: return thought.minutes;
            case 1: return thought.goings;
            case 2: return thought.turns;
            case 3: return thought.left;
            default: return thought.cost();
        }
    }

    public int going(int told, int k, int what) {
        if (!world.knows(told) || k < 0 || what < 0 || what > 2) {
            return BAD;
        }
        thought.wholeWith(told);
        if (k >= thought.goings || k >= MOST_THINGS) {
            return NOT;
        }
        switch (what) {
            case 0: return thought.goer[k];
            case 1: return thought.fetched[k];
            default: return thought.took[k];
        }
    }

    public long mean(int part) {
        if (part < 0 || part > 1) {
            return Long.MIN_VALUE;
        }
        table.refresh();
        table.weigh(0, 0);
        return table.inLowestTerms(table.costs(), part);
    }

    public long likely(int thing, int part) {
        if (thing < -1 || thing >= world.things || part < 0 || part > 1) {
            return Long.MIN_VALUE;
        }
        table.refresh();
        table.weigh(0, 0);
        long ways = thing < 0 ? table.waysWithoutGoing() : table.waysWithLeft(1 << thing);
        return table.inLowestTerms(ways, part);
    }

    public int aloud(int told, int person) {
        if (!world.knows(told) || person < 0 || person >= PERSONS) {
            return BAD;
        }
        return world.minutesAloud(told, person);
    }

    public int who(int told) {
        if (!world.knows(told)) {
            return BAD;
        }
        int best = 0;
        for (int person = 1; person < PERSONS; person++) {
            if (world.minutesAloud(told, person) < world.minutesAloud(told, best)) {
                best = person;
            }
        }
        return best;
    }

    public long doorstep(int part) {
        if (part < 0 || part > 2) {
            return Long.MIN_VALUE;
        }
        if (world.things == 0) {
            return NOT;
        }
        table.refresh();
        int thing = table.bestDoorstep();
        if (part == 2) {
            return thing;
        }
        table.weigh(1 << thing, 0);
        return table.inLowestTerms(table.costs(), part);
    }

    public long list(int most, int part) {
        if (most < 0 || most > LONGEST_LIST || part < 0 || part > 2) {
            return Long.MIN_VALUE;
        }
        table.refresh();
        int list = table.bestList(most);
        if (part == 2) {
            return list;
        }
        table.weigh(0, list);
        return table.inLowestTerms(table.costs(), part);
    }

    public int onWith(int told) {
        if (!world.knows(told)) {
            return BAD;
        }
        thought.wholeWith(told);
        return thought.lastTurn;
    }

    public int judge(int shelf, int told) {
        Shelf row = shelfAt(shelf);
        if (row == null || !world.knows(told)) {
            return BAD;
        }
        int refusal = row.refusalOfBytes();
        if (refusal != 0) {
            return refusal;
        }
        thought.wholeWith(told);
        return firstUntrue(row, thought);
    }

    public int which(int shelf, int what) {
        Shelf row = shelfAt(shelf);
        if (row == null || what < 0 || what > 2) {
            return BAD;
        }
        int refusal = row.refusalOfBytes();
        if (refusal != 0) {
            return refusal;
        }
        int many = 0;
        int least = NOT;
        int sure = 0;
        for (int set = 0; set < world.sets(); set++) {
            thought.wholeWith(set);
            if (firstUntrue(row, thought) == NOT) {
                least = many == 0 ? set : least;
                sure = many == 0 ? set : sure & set;
                many++;
            }
        }
        switch (what) {
            case 0: return many;
            case 1: return least;
            default: return sure;
        }
    }

    public int first(int what) {
        if (what < 0 || what > 1) {
            return BAD;
        }
        if (world.things == 0) {
            return NOT;
        }
        table.refresh();
        int set = table.dearest();
        return what == 0 ? set : table.costOf(set);
    }

    public int chain(int thing) {
        return world.has(SETS_OFF, thing) ? Integer.bitCount(world.broughtBy(thing)) : BAD;
    }

    public int drawn(int seed, int n, int what) {
        if (n < 1 || n > MOST_DRAWS || what < 0 || what > 1) {
            return BAD;
        }
        draw.last = seed;
        int costs = 0;
        int without = 0;
        for (int i = 0; i < n; i++) {
            thought.wholeWith(draw.forgottenOf(world));
            costs += thought.cost();
            without += thought.goings == 0 ? 1 : 0;
        }
        return what == 0 ? costs : without;
    }

    // ---- in deed

    public int lock(int seed) {
        if (journey.drive.isOn) {
            return STATE;
        }
        draw.last = seed;
        int forgotten = draw.forgottenOf(world);
        journey.drive.beginWith(forgotten);
        return Integer.bitCount(forgotten);
    }

    public int on() {
        if (!journey.drive.isOn) {
            return STATE;
        }
        journey.drive.driveOn();
        if (journey.drive.isOn) {
            return journey.drive.stop;
        }
        journey.overs++;
        journey.costs += journey.drive.cost();
        return NOT;
    }

    public int led(int what) {
        switch (what) {
            case 0: return journey.drive.minutes;
            case 1: return journey.drive.goings;
            case 2: return journey.drive.turns;
            case 3: return journey.drive.left;
            case 4: return journey.overs;
            case 5: return journey.costs;
            case 6: return journey.drive.isOn ? journey.drive.stop : NOT;
            default: return BAD;
        }
    }

    public int image() {
        journey.keepImage();
        return journey.drive.minutes;
    }

    public int back() {
        if (!journey.hasImage) {
            return STATE;
        }
        journey.layBack();
        return journey.drive.minutes;
    }

    public int undo() {
        return changes.undoIn(world) ? changes.done : STATE;
    }

    public int redo() {
        return changes.redoIn(world) ? changes.kept - changes.done : STATE;
    }

    // ---- acts, shelves

    public int body(int kind) {
        return kind < 0 || kind >= Acts.KINDS ? BAD : acts.add(kind);
    }

    public int act(int body, int act, int x) {
        acts.ran = 0;
        if (!acts.has(body) || act < 0 || act >= Acts.ACTS) {
            return 0;
        }
        return acts.answer(body, act, x);
    }

    public int trace(int i) {
        return i < 0 || i >= acts.ran || i >= Acts.KEPT ? BAD : acts.traced[i];
    }

    public int keep(int shelf, int body) {
        Shelf here = shelfAt(shelf);
        if (here == null || (body != -1 && !acts.has(body))) {
            return BAD;
        }
        here.holds = body == -1 ? Shelf.NOTHING : Shelf.BODY;
        here.bodyHeld = body;
        return 1;
    }

    public int row(int shelf, int sort, int n) {
        Shelf here = shelfAt(shelf);
        if (here == null || sort < 0 || sort >= Shelf.SORTS || n > Shelf.MOST) {
            return BAD;
        }
        if (n < 0) {
            return BELOW_ZERO;
        }
        here.becomeRow(sort, n);
        return 1;
    }

    public int put(int shelf, int i, long v) {
        Shelf here = shelfAt(shelf);
        if (here == null) {
            return BAD;
        }
        int refusal = here.refusalOfPlace(i);
        if (refusal != 0) {
            return refusal;
        }
        here.store(i, v);
        return 1;
    }

    public long element(int shelf, int i) {
        Shelf here = shelfAt(shelf);
        if (here == null || here.refusalOfPlace(i) != 0) {
            return Long.MIN_VALUE;
        }
        return here.elementAt(i);
    }

    public int shift(int shelf, int i, int other, int j, int n) {
        Shelf from = shelfAt(shelf);
        Shelf to = shelfAt(other);
        if (from == null || to == null) {
            return BAD;
        }
        if (from.holds == Shelf.NOTHING || to.holds == Shelf.NOTHING) {
            return NOTHING_THERE;
        }
        if (from.holds != Shelf.ROW || to.holds != Shelf.ROW || from.sort != to.sort) {
            return OTHER_KIND;
        }
        if (!from.hasPlaces(i, n) || !to.hasPlaces(j, n)) {
            return NO_PLACE;
        }
        System.arraycopy(from.elements, i, to.elements, j, n);
        return n;
    }

    public int taken(int shelf, int k) {
        Shelf here = shelfAt(shelf);
        if (here == null || k < 0 || k >= Acts.KINDS) {
            return BAD;
        }
        if (here.holds == Shelf.NOTHING) {
            return NOTHING_THERE;
        }
        if (here.holds != Shelf.BODY) {
            return OTHER_KIND;
        }
        int kind = acts.kindOf(here.bodyHeld);
        return Acts.isUnder(kind, k) ? kind : OTHER_KIND;
    }

    public int count(int what) {
        switch (what) {
            case 0: return world.things;
            case 1: return reader.length;
            case 2: return changes.done;
            case 3: return acts.bodies;
            case 4: return acts.ran;
            default: return BAD;
        }
    }

    private Shelf shelfAt(int number) {
        return number < 0 || number >= shelves.length ? null : shelves[number];
    }

    private boolean thingCame(Shelf row, int at) {
        if (!row.hasPlaces(at, 4)) {
            return false;
        }
        int whose = (int) row.elementAt(at);
        int chance = (int) row.elementAt(at + 1);
        int stop = (int) row.elementAt(at + 2);
        int worth = (int) row.elementAt(at + 3);
        if (!World.may(WHOSE, whose) || !World.may(CHANCE, chance)
                || !World.may(STOP, stop) || !World.may(WORTH, worth)) {
            return false;
        }
        return world.add(whose, chance, stop, worth) >= 0;
    }

    /** The first two of the row that the drive's goings do not bear out; NOT: all are so. */
    private static int firstUntrue(Shelf row, Drive drive) {
        for (int two = 0; two <= Shelf.MOST; two++) {
            boolean went = two < drive.goings && two < MOST_THINGS;
            if (!went) {
                return 2 * two >= row.size ? NOT : two;
            }
            if (!row.hasPlaces(2 * two, 2) || row.elementAt(2 * two) != drive.goer[two]
                    || row.elementAt(2 * two + 1) != drive.took[two]) {
                return two;
            }
        }
        return NOT;
    }

    /** Things, people's paces, ways, the price: one table of numbers, so that a change is a place in it. */
    private static final class World {
        private static final int[] LEAST = {0, 0, 0, 0, 0, 1, 1, 0};
        private static final int[] MOST = {5, 12, 6, 99, 255, 9, 20, 9};

        final int[][] numbers = new int[NUMBERS][MOST_THINGS];
        final Law law = new Law();
        int things;
        /** Grows with all that may change a drive, so that the table of costs knows when it is stale. */
        int edition = 1;

        World() {
            for (int i = 0; i < MOST_THINGS; i++) {
                numbers[PACE][i] = 2;
                numbers[WAY][i] = 3;
                numbers[PRICE][i] = 1;
            }
        }

        static boolean may(int what, int v) {
            return what >= 0 && what < LEAST.length && what < MOST.length && v >= LEAST[what] && v <= MOST[what];
        }

        boolean has(int what, int number) {
            if (what < 0 || what >= NUMBERS || number < 0) {
                return false;
            }
            switch (what) {
                case PACE: return number < PERSONS;
                case WAY: return number < LAST_STOP;
                case PRICE: return number == 0;
                default: return number < things;
            }
        }

        int value(int what, int number) {
            if (what < 0 || what >= NUMBERS || number < 0 || number >= MOST_THINGS) {
                return 0;
            }
            return numbers[what][number];
        }

        void become(int what, int number, int v) {
            if (what >= 0 && what < NUMBERS && number >= 0 && number < MOST_THINGS) {
                numbers[what][number] = v;
                edition++;
            }
        }

        int add(int whose, int chance, int stop, int worth) {
            if (things >= MOST_THINGS) {
                return FULL;
            }
            int number = things++;
            become(WHOSE, number, whose);
            become(CHANCE, number, chance);
            become(STOP, number, stop);
            become(WORTH, number, worth);
            return number;
        }

        void obey(Reader reader) {
            law.adopt(reader.operations, reader.numbers, reader.size);
            edition++;
        }

        /** How many sets of things there are. */
        int sets() {
            return 1 << Math.min(things, MOST_THINGS);
        }

        boolean knows(int told) {
            return told >= 0 && told < sets();
        }

        int worthOf(int set) {
            int worth = 0;
            for (int i = 0; i < MOST_THINGS; i++) {
                worth += (set >> i & 1) * value(WORTH, i);
            }
            return worth;
        }

        int minutesTo(int stop) {
            int minutes = 0;
            for (int i = 0; i < stop && i < LAST_STOP; i++) {
                minutes += value(WAY, i);
            }
            return minutes;
        }

        /** When all that is forgotten is fetched at once, no going is left for the drive: it is its ways. */
        int minutesAloud(int told, int person) {
            int ways = minutesTo(LAST_STOP);
            if (told == 0) {
                return ways;
            }
            return ways + law.minutes(Integer.bitCount(told), value(PACE, person), 0, worthOf(told), 0);
        }

        int broughtBy(int thing) {
            int brought = 1 << thing;
            // Each round brings at least one more, or none can come any more.
            for (int round = 0; round < MOST_THINGS; round++) {
                for (int i = 0; i < MOST_THINGS; i++) {
                    if ((brought >> i & 1) == 1) {
                        brought |= value(SETS_OFF, i) & (sets() - 1);
                    }
                }
            }
            return brought;
        }
    }

    /** What was mended, in its order: what may be undone, and behind it what may be done again. */
    private static final class Changes {
        private static final int MOST = 40;

        final int[] what = new int[MOST];
        final int[] number = new int[MOST];
        final int[] before = new int[MOST];
        final int[] after = new int[MOST];
        int done;
        int kept;

        void note(int whatNow, int numberNow, int was, int is) {
            if (done >= MOST) {
                forgetOldest();
            }
            if (done >= 0) {
                what[done] = whatNow;
                number[done] = numberNow;
                before[done] = was;
                after[done] = is;
                done++;
                kept = done;
            }
        }

        private void forgetOldest() {
            for (int i = 1; i < MOST; i++) {
                what[i - 1] = what[i];
                number[i - 1] = number[i];
                before[i - 1] = before[i];
                after[i - 1] = after[i];
            }
            done = MOST - 1;
        }

        boolean undoIn(World world) {
            if (done <= 0 || done > MOST) {
                return false;
            }
            done--;
            world.become(what[done], number[done], before[done]);
            return true;
        }

        boolean redoIn(World world) {
            if (done < 0 || done >= kept || done >= MOST) {
                return false;
            }
            world.become(what[done], number[done], after[done]);
            done++;
            return true;
        }
    }

    /** The law as operations on a stack: read once, worked out at each going. */
    private static final class Law {
        static final int SPACE = 128;
        static final char NUMBER = '0', NAME = 'n', MINUS = '~';
        private static final int LONGEST_GOING = 60, GROUND = 2;

        final int[] operations = new int[SPACE];
        final int[] numbers = new int[SPACE];
        final int[] stack = new int[SPACE + GROUND];
        final int[] names = new int[5];
        int size;

        void adopt(int[] newOperations, int[] newNumbers, int newSize) {
            size = 0;
            for (int i = 0; i < newSize && i < SPACE && i < newOperations.length && i < newNumbers.length; i++) {
                operations[i] = newOperations[i];
                numbers[i] = newNumbers[i];
                size++;
            }
        }

        int minutes(int n, int p, int k, int w, int s) {
            if (size == 0) {
                return held(p + n);
            }
            names[0] = n;
            names[1] = p;
            names[2] = k;
            names[3] = w;
            names[4] = s;
            return held(firstThatCounts());
        }

        /** Two places under the stack's first one let every operation look at two without asking how high it is. */
        private int firstThatCounts() {
            int top = GROUND;
            boolean counts = true;
            for (int i = 0; i < size && i < SPACE && top >= GROUND && top < stack.length; i++) {
                int right = stack[top - 1];
                switch (operations[i]) {
                    case NUMBER:
                        stack[top] = numbers[i];
                        top++;
                        break;
                    case NAME:
                        stack[top] = named(numbers[i]);
                        top++;
                        break;
                    case '!':
                        stack[top - 1] = right == 0 ? 1 : 0;
                        break;
                    case MINUS:
                        stack[top - 1] = -right;
                        break;
                    case '?':
                        counts = right != 0;
                        top--;
                        break;
                    case ';':
                        if (counts) {
                            return right;
                        }
                        counts = true;
                        top--;
                        break;
                    default:
                        stack[top - 2] = together(operations[i], stack[top - 2], right);
                        top--;
                }
            }
            return 0;
        }

        private int named(int name) {
            return name >= 0 && name < names.length ? names[name] : 0;
        }

        private static int together(int operation, int left, int right) {
            switch (operation) {
                case '|': return left != 0 || right != 0 ? 1 : 0;
                case '&': return left != 0 && right != 0 ? 1 : 0;
                case '<': return left < right ? 1 : 0;
                case '=': return left == right ? 1 : 0;
                case '>': return left > right ? 1 : 0;
                case '+': return left + right;
                case '-': return left - right;
                case '*': return left * right;
                case '/': return right == 0 ? 0 : left / right;
                case '%': return right == 0 ? 0 : left % right;
                default: return 0;
            }
        }

        private static int held(int minutes) {
            return Math.max(1, Math.min(LONGEST_GOING, minutes));
        }
    }

    /** The tape, and its reading by descent through the law's grammar. */
    private static final class Reader {
        private static final int MOST = 120, MOST_OPEN = 6, MOST_DIGITS = 4;

        final int[] tape = new int[MOST];
        final int[] operations = new int[Law.SPACE];
        final int[] numbers = new int[Law.SPACE];
        int length;
        int size;
        private int at;
        private int fault;

        int take(int letter) {
            if (length < 0 || length >= MOST) {
                return FULL;
            }
            tape[length] = letter;
            length++;
            return length;
        }

        /** Empties the tape; the fault's place, or -1 and the operations of the text. */
        int read() {
            at = 0;
            fault = -1;
            size = 0;
            line();
            for (int i = 0; i < MOST && accepts(';'); i++) {
                line();
            }
            if (at < length) {
                refuse();
            }
            length = 0;
            return fault;
        }

        private void line() {
            either(0);
            if (accepts('?')) {
                emit('?', 0);
                either(0);
            }
            emit(';', 0);
        }

        private void either(int open) {
            both(open);
            for (int i = 0; i < MOST && accepts('|'); i++) {
                both(open);
                emit('|', 0);
            }
        }

        private void both(int open) {
            compared(open);
            for (int i = 0; i < MOST && accepts('&'); i++) {
                compared(open);
                emit('&', 0);
            }
        }

        private void compared(int open) {
            sum(open);
            int sign = letter();
            if (sign == '<' || sign == '=' || sign == '>') {
                at++;
                sum(open);
                emit(sign, 0);
            }
        }

        private void sum(int open) {
            product(open);
            for (int i = 0; i < MOST && (letter() == '+' || letter() == '-'); i++) {
                int sign = letter();
                at++;
                product(open);
                emit(sign, 0);
            }
        }

        private void product(int open) {
            operand(open);
            for (int i = 0; i < MOST && (letter() == '*' || letter() == '/' || letter() == '%'); i++) {
                int sign = letter();
                at++;
                operand(open);
                emit(sign, 0);
            }
        }

        private void operand(int open) {
            int letter = letter();
            if (isDigit(letter)) {
                number();
            } else if (nameOf(letter) >= 0) {
                at++;
                emit(Law.NAME, nameOf(letter));
            } else if (open < MOST_OPEN && letter == '(') {
                at++;
                either(open + 1);
                if (!accepts(')')) {
                    refuse();
                }
            } else if (open < MOST_OPEN && (letter == '!' || letter == '-')) {
                at++;
                operand(open + 1);
                emit(letter == '!' ? '!' : Law.MINUS, 0);
            } else {
                refuse();
            }
        }

        private void number() {
            int number = 0;
            for (int i = 0; i < MOST_DIGITS && isDigit(letter()); i++) {
                number = number * 10 + letter() - '0';
                at++;
            }
            emit(Law.NUMBER, number);
        }

        /** The letter that is next; -1 at the end, and once there is a fault, so that nothing more is read. */
        private int letter() {
            return fault < 0 && at >= 0 && at < length && at < MOST ? tape[at] : -1;
        }

        private boolean accepts(int wanted) {
            if (letter() != wanted) {
                return false;
            }
            at++;
            return true;
        }

        private static boolean isDigit(int letter) {
            return letter >= '0' && letter <= '9';
        }

        private static int nameOf(int letter) {
            switch (letter) {
                case 'n': return 0;
                case 'p': return 1;
                case 'k': return 2;
                case 'w': return 3;
                case 's': return 4;
                default: return -1;
            }
        }

        /** Only the first fault is told. */
        private void refuse() {
            if (fault < 0) {
                fault = at;
            }
        }

        private void emit(int operation, int number) {
            if (size >= 0 && size < Law.SPACE) {
                operations[size] = operation;
                numbers[size] = number;
                size++;
            }
        }
    }

    /** One drive, in thought or in deed, as far as it has come. */
    private static final class Drive {
        final World world;
        final int[] goer = new int[MOST_THINGS];
        final int[] fetched = new int[MOST_THINGS];
        final int[] took = new int[MOST_THINGS];
        boolean isOn;
        int stop;
        int forgotten;
        int had;
        int left;
        int minutes;
        int goings;
        int turns;
        int lastTurn;

        Drive(World world) {
            this.world = world;
        }

        void wholeWith(int told) {
            beginWith(told);
            for (int i = 0; i <= LAST_STOP; i++) {
                driveOn();
            }
        }

        void beginWith(int told) {
            isOn = true;
            stop = 0;
            forgotten = told;
            had = 0;
            left = 0;
            minutes = 0;
            goings = 0;
            turns = 0;
            lastTurn = 0;
        }

        void driveOn() {
            int minded = mindedHere();
            int thereAndBack = 2 * world.minutesTo(stop);
            if (stop == 0) {
                goFor(minded);
            } else if (world.worthOf(minded) > world.value(PRICE, 0) * thereAndBack) {
                minutes += thereAndBack;
                turns++;
                lastTurn = stop;
                goFor(minded);
            } else {
                left |= minded;
            }
            if (stop >= LAST_STOP) {
                isOn = false;
            } else {
                minutes += world.value(WAY, stop);
                stop++;
            }
        }

        int cost() {
            return world.value(PRICE, 0) * minutes + world.worthOf(left);
        }

        private int mindedHere() {
            int minded = 0;
            for (int i = 0; i < MOST_THINGS; i++) {
                if (world.value(STOP, i) == stop) {
                    minded |= 1 << i;
                }
            }
            return minded & open();
        }

        /** What may still come to mind: what was left never does again. */
        private int open() {
            return forgotten & ~had & ~left;
        }

        private void goFor(int first) {
            int minded = first;
            for (int going = 0; going < MOST_THINGS && minded != 0; going++) {
                int thing = leastOf(minded);
                int person = world.value(WHOSE, thing);
                int pace = world.value(PACE, person);
                noteGoing(person, thing, world.law.minutes(1, pace, goings, world.value(WORTH, thing), stop));
                had |= 1 << thing;
                minded = (minded | world.value(SETS_OFF, thing)) & open();
            }
        }

        private static int leastOf(int set) {
            int least = 0;
            for (int i = MOST_THINGS - 1; i >= 0; i--) {
                least = (set >> i & 1) == 1 ? i : least;
            }
            return least;
        }

        private void noteGoing(int person, int thing, int minutesGone) {
            if (goings >= 0 && goings < MOST_THINGS) {
                goer[goings] = person;
                fetched[goings] = thing;
                took[goings] = minutesGone;
            }
            goings++;
            minutes += minutesGone;
        }

        /** The goings one by one and the last turn are told of drives in thought alone, so they stay behind. */
        void becomeLike(Drive other) {
            isOn = other.isOn;
            stop = other.stop;
            forgotten = other.forgotten;
            had = other.had;
            left = other.left;
            minutes = other.minutes;
            goings = other.goings;
            turns = other.turns;
        }
    }

    /** The drives with all sets of things, and how likely each set is, in whole numbers over one line. */
    private static final class Table {
        private static final int MOST_SETS = 256, MOST_STEPS = 200;

        final World world;
        final Drive drive;
        final int[] cost = new int[MOST_SETS];
        final int[] left = new int[MOST_SETS];
        final int[] goings = new int[MOST_SETS];
        final long[] weight = new long[MOST_SETS];
        long below = 1;
        int edition;

        Table(World world) {
            this.world = world;
            drive = new Drive(world);
        }

        void refresh() {
            if (edition == world.edition) {
                return;
            }
            edition = world.edition;
            for (int set = 0; set < world.sets() && set < MOST_SETS; set++) {
                drive.wholeWith(set);
                cost[set] = drive.cost();
                left[set] = drive.left;
                goings[set] = drive.goings;
            }
        }

        /** Weighs all sets, where some things are never forgotten and some stand on a list. */
        void weigh(int never, int list) {
            below = 1;
            weight[0] = 1;
            for (int i = 0; i < world.things && i < MOST_THINGS; i++) {
                boolean listed = (list >> i & 1) == 1;
                long all = listed ? 144 : 12;
                long lost = (never >> i & 1) == 1 ? 0 : world.value(CHANCE, i);
                // On a list a thing is lost only where it is not read, and each on it is missed as often as there are some.
                lost *= listed ? Integer.bitCount(list) : 1;
                part(i, lost, all - lost);
                below *= all;
            }
        }

        private void part(int thing, long lost, long notLost) {
            int size = 1 << thing;
            for (int set = 0; set < size && size + set < MOST_SETS; set++) {
                weight[size + set] = weight[set] * lost;
                weight[set] *= notLost;
            }
        }

        long costs() {
            long sum = 0;
            for (int set = 0; set < world.sets() && set < MOST_SETS; set++) {
                sum += weight[set] * cost[set];
            }
            return sum;
        }

        long waysWithoutGoing() {
            long sum = 0;
            for (int set = 0; set < world.sets() && set < MOST_SETS; set++) {
                sum += goings[set] == 0 ? weight[set] : 0;
            }
            return sum;
        }

        long waysWithLeft(int thing) {
            long sum = 0;
            for (int set = 0; set < world.sets() && set < MOST_SETS; set++) {
                sum += (left[set] & thing) != 0 ? weight[set] : 0;
            }
            return sum;
        }

        long inLowestTerms(long above, int part) {
            long common = below;
            long rest = above;
            for (int i = 0; i < MOST_STEPS && rest != 0; i++) {
                long next = common % rest;
                common = rest;
                rest = next;
            }
            if (common == 0) {
                return 0;
            }
            return part == 0 ? above / common : below / common;
        }

        int bestDoorstep() {
            int best = 0;
            long least = Long.MAX_VALUE;
            for (int thing = 0; thing < world.things && thing < MOST_THINGS; thing++) {
                weigh(1 << thing, 0);
                long costs = costs();
                if (costs < least) {
                    least = costs;
                    best = thing;
                }
            }
            return best;
        }

        int bestList(int most) {
            int best = 0;
            long least = Long.MAX_VALUE;
            // Longer lists stand over a longer line: all are brought over the longest one's.
            long scale = 12 * 12 * 12;
            for (int size = 0; size <= most && size <= LONGEST_LIST; size++) {
                for (int list = 0; list < world.sets() && list < MOST_SETS; list++) {
                    if (Integer.bitCount(list) == size) {
                        weigh(0, list);
                        long costs = costs() * scale;
                        best = costs < least ? list : best;
                        least = Math.min(costs, least);
                    }
                }
                scale /= 12;
            }
            return best;
        }

        int dearest() {
            int best = 1;
            for (int set = 2; set < world.sets() && set < MOST_SETS; set++) {
                if (cost[set] > cost[best]) {
                    best = set;
                }
            }
            return best;
        }

        int costOf(int set) {
            return set >= 0 && set < MOST_SETS ? cost[set] : 0;
        }
    }

    /** The draws by a seed. */
    private static final class Draw {
        int last;

        int forgottenOf(World world) {
            int forgotten = 0;
            for (int i = 0; i < world.things && i < MOST_THINGS; i++) {
                last = last * 1103515245 + 12345;
                if ((last >>> 8) % 12 < world.value(CHANCE, i)) {
                    forgotten |= 1 << i;
                }
            }
            return forgotten;
        }
    }

    /** The drive in deed, what is told of those before it, and the image of both. */
    private static final class Journey {
        final Drive drive;
        final Drive imageDrive;
        int overs;
        int costs;
        int imageOvers;
        int imageCosts;
        boolean hasImage;

        Journey(World world) {
            drive = new Drive(world);
            imageDrive = new Drive(world);
        }

        void keepImage() {
            imageDrive.becomeLike(drive);
            imageOvers = overs;
            imageCosts = costs;
            hasImage = true;
        }

        void layBack() {
            drive.becomeLike(imageDrive);
            overs = imageOvers;
            costs = imageCosts;
        }
    }

    /** Bodies of kinds, and the acts that come to them from above. */
    private static final class Acts {
        static final int KINDS = 8, ACTS = 4, KEPT = 24;
        private static final int MOST = 50, DEEPEST = 40;
        private static final int GOES = 0, FINDS = 1, SETS = 2, TELLS = 3;
        /** The kind that each kind stands under. */
        private static final int[] ABOVE = {-1, 0, 0, 2, 1, 3, 0, 6};
        /** By kinds, four acts each: the number of its own body, 0 where it has none. */
        private static final int[] OWN = {
            1, 10, 11, 2,
            20, 0, 0, 0,
            0, 30, 0, 0,
            0, 41, 40, 0,
            0, 0, 0, 50,
            0, 0, 60, 61,
            70, 0, 0, 0,
            81, 80, 0, 0};

        final int[] kinds = new int[MOST];
        final int[] traced = new int[KEPT];
        int bodies;
        int ran;

        int add(int kind) {
            if (bodies < 0 || bodies >= MOST) {
                return FULL;
            }
            kinds[bodies] = kind;
            bodies++;
            return bodies - 1;
        }

        boolean has(int number) {
            return number >= 0 && number < bodies && number < MOST;
        }

        int kindOf(int number) {
            return has(number) ? kinds[number] : -1;
        }

        static boolean isUnder(int kind, int other) {
            int at = kind;
            for (int i = 0; i < KINDS && at >= 0 && at != other; i++) {
                at = aboveOf(at);
            }
            return at == other;
        }

        private static int aboveOf(int kind) {
            return kind >= 0 && kind < ABOVE.length ? ABOVE[kind] : -1;
        }

        private static int ownBody(int kind, int act) {
            int place = kind * ACTS + act;
            return place >= 0 && place < OWN.length ? OWN[place] : 0;
        }

        /** The nearest kind with a body for the act, from a kind upward. */
        private static int nearest(int kind, int act) {
            int at = kind;
            for (int i = 0; i < KINDS && at >= 0 && ownBody(at, act) == 0; i++) {
                at = aboveOf(at);
            }
            return at;
        }

        private void note(int body) {
            if (ran >= 0 && ran < KEPT) {
                traced[ran] = body;
            }
            ran++;
        }

        int answer(int body, int act, int x) {
            return perform(body, kindOf(body), act, x, 0);
        }

        /** Runs the act's body as it is found from a kind upward. */
        private int perform(int self, int from, int act, int x, int depth) {
            int at = nearest(from, act);
            if (at < 0 || depth >= DEEPEST) {
                return 0;
            }
            int body = ownBody(at, act);
            int up = aboveOf(at);
            int own = kindOf(self);
            int d = depth + 1;
            note(body);
            switch (body) {
                case 1: return x + self;
                case 2: return perform(self, own, FINDS, x, d) - perform(self, own, SETS, 1, d);
                case 10: return perform(self, own, GOES, x, d) * 2;
                case 11: return x ^ self;
                case 20: return perform(self, up, GOES, x, d) + 3;
                case 30: return -perform(self, up, FINDS, x, d);
                case 40: return perform(self, up, SETS, x, d) * 3;
                case 41: return perform(self, up, FINDS, x + 1, d);
                case 50: return perform(self, up, TELLS, x, d) ^ 5;
                case 60: return perform(self, up, SETS, x, d) - perform(self, own, GOES, 2, d);
                case 61: return perform(self, up, TELLS, x, d) + 1;
                case 70: return perform(self, up, GOES, x, d) * 2;
                case 80: return perform(self, up, FINDS, x, d) + perform(self, own, SETS, 2, d);
                case 81: return perform(self, up, GOES, x, d) - 1;
                default: return 0;
            }
        }
    }

    /** A shelf with a body, a row, or nothing; its row's room is made once, for the longest row. */
    private static final class Shelf {
        static final int NOTHING = 0, BODY = 1, ROW = 2;
        static final int SORTS = 5, MOST = 60;

        final long[] elements = new long[MOST];
        int holds;
        int bodyHeld;
        int sort;
        int size;

        void becomeRow(int newSort, int newSize) {
            holds = ROW;
            sort = newSort;
            size = newSize;
            for (int i = 0; i < MOST; i++) {
                elements[i] = 0;
            }
        }

        boolean holdsBytes() {
            return holds == ROW && sort == 0;
        }

        int refusalOfBytes() {
            if (holds == NOTHING) {
                return NOTHING_THERE;
            }
            return holdsBytes() ? 0 : OTHER_KIND;
        }

        int refusalOfPlace(int i) {
            if (holds == NOTHING) {
                return NOTHING_THERE;
            } else if (holds != ROW) {
                return OTHER_KIND;
            }
            return hasPlaces(i, 1) ? 0 : NO_PLACE;
        }

        /** Said by what is left behind i, for i and n together may wrap. */
        boolean hasPlaces(int i, int n) {
            return size <= MOST && i >= 0 && n >= 0 && i <= size && n <= size - i;
        }

        long elementAt(int i) {
            return i >= 0 && i < size && i < MOST ? elements[i] : 0;
        }

        void store(int i, long v) {
            if (i >= 0 && i < size && i < MOST) {
                elements[i] = lowestBits(v);
            }
        }

        private long lowestBits(long v) {
            switch (sort) {
                case 0: return (byte) v;
                case 1: return (short) v;
                case 2: return (int) v;
                case 3: return v;
                default: return v != 0 ? 1 : 0;
            }
        }
    }
}
