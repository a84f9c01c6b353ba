import java.util.NoSuchElementException;

/** A pen on two cords over a wall, as ../shared/DOC.md tells it; the words in capitals are told there. */
public final class CordPens {
    public static final int NONE = -1;

    private static final int CANNOT = -2;
    private static final int NO_SUCH = -2147483648;
    private static final int MOST_MOVES = 150;
    private static final int LEFT = 0;
    private static final int RIGHT = 1;
    private static final int GREATEST_DOUBT = 999;

    private final Wall wall = new Wall();
    private final Tape tape = new Tape();
    private final Script script = new Script();
    private final Parser parser = new Parser(tape, script);
    private final Moves moves = new Moves(wall);
    private final Moves others = new Moves(wall);
    private final Plotter plotter = new Plotter(wall, script, moves);
    private final Trace trace = new Trace(wall, moves);
    private final Crosses crosses = new Crosses(wall, moves);
    private final Duo duo = new Duo(wall, moves, others);
    private final Pens pens = new Pens();
    private final Run course = new Run(moves);
    private boolean filled = false;

    public CordPens() {
        moves.goHome();
        others.goHome();
    }

    public int feed(int a, int b, int c, int d, int e) {
        if (tape.size + 20 > Tape.MOST_BYTES) {
            return NONE;
        }
        tape.append(a);
        tape.append(b);
        tape.append(c);
        tape.append(d);
        tape.append(e);
        return tape.size;
    }

    public boolean wall(int w, int h, int k) {
        if (!isWithin(w, 20, 200) || !isWithin(h, 20, 200) || !isWithin(k, 2, 20)) {
            return false;
        }
        wall.width = w;
        wall.height = h;
        wall.fineness = k;
        wall.forgetReach();
        moves.goHome();
        others.goHome();
        dropWhatHangsOnMoves();
        return true;
    }

    public boolean set(int what, int n) {
        if (what == 0 && isWithin(n, 0, 99)) {
            wall.stretch = n;
            moves.measure();
            others.measure();
            dropWhatHangsOnMoves();
        } else if (what == 1 && isWithin(n, 1, 99)) {
            wall.weight = n;
        } else if (what == 2 && isWithin(n, 1, 9999)) {
            wall.limit = n;
        } else {
            return false;
        }
        wall.forgetReach();
        return true;
    }

    public int draw(int n) {
        if (n < 0 || n > tape.size) {
            return CANNOT;
        }
        boolean sound = parser.read(n);
        tape.size = 0;
        filled = false;
        if (!sound) {
            return NONE;
        }
        dropWhatHangsOnMoves();
        filled = plotter.plotAll();
        moves.measure();
        return moves.number;
    }

    public int fault(int what) {
        switch (what) {
            case 0: return parser.fault;
            case 1: return parser.faultAt;
            case 2: return filled ? 1 : 0;
            default: return NONE;
        }
    }

    public int look(int move, int what) throws IndexOutOfBoundsException, NoSuchElementException {
        if (!moves.has(move)) {
            throw new IndexOutOfBoundsException("no such MOVE");
        }
        switch (what) {
            case 0: return moves.x[move + 1];
            case 1: return moves.y[move + 1];
            case 2: return moves.down[move + 1] ? 1 : 0;
            case 3: return moves.ticksOf(move);
            case 4: return moves.left[move + 1];
            case 5: return moves.right[move + 1];
            default: throw new NoSuchElementException("no such what");
        }
    }

    public int steps(int x, int y, int what) {
        if (!wall.holds(x, y) || !isCord(what)) {
            return NONE;
        }
        return what == LEFT ? wall.leftSteps(x, y) : wall.rightSteps(x, y);
    }

    public int place(int left, int right, int what) {
        if (!isWithin(left, 0, 9999) || !isWithin(right, 0, 9999) || !isAxis(what)) {
            return NO_SUCH;
        }
        return placeNumber(left, right, what);
    }

    public int grain(int x, int y) {
        return wall.holds(x, y) ? wall.grainAt(x, y) : NONE;
    }

    public int pull(int x, int y, int what) {
        if (!isWithin(x, 0, wall.width) || !isWithin(y, 1, wall.height)) {
            return NONE;
        }
        switch (what) {
            case 0: return wall.leftPull(x, y);
            case 1: return wall.rightPull(x, y);
            case 2: return wall.bears(x, y) ? 1 : 0;
            default: return NONE;
        }
    }

    public int reach() {
        return wall.countReach();
    }

    public int sag(int move) {
        return moves.has(move) ? trace.sagOf(move) : NONE;
    }

    public int parts(int move, int e) {
        return moves.has(move) && e >= 0 ? trace.fewestParts(move, e) : NONE;
    }

    public int skips(int v) {
        return v < 0 ? NONE : trace.countSkips(v);
    }

    public int ticks(int what) {
        if (what != 0 && what != 1) {
            return NONE;
        }
        int sum = 0;
        for (int m = 0; m < moves.number; m++) {
            if (what == 0 || moves.down[m + 1]) {
                sum += moves.ticksOf(m);
            }
        }
        return sum;
    }

    public boolean miss(int move, int cord, int n) {
        if (!moves.has(move) || !isCord(cord) || !isWithin(n, -9, 9)) {
            return false;
        }
        moves.missed[2 * move + cord] = n;
        return true;
    }

    public int real(int move, int what) {
        return moves.has(move) && isAxis(what) ? realNumber(move, 0, 0, what) : NO_SUCH;
    }

    public int seen(int move, int x, int y) {
        return moves.has(move) ? crosses.append(move, x, y) : NONE;
    }

    public int forget() {
        return crosses.removeAll();
    }

    public int found(int d, int what) {
        if (!isWithin(d, 0, GREATEST_DOUBT)) {
            return NONE;
        }
        if (!isWithin(what, 0, 2 * crosses.number)) {
            return NO_SUCH;
        }
        if (!crosses.solve(d)) {
            return CANNOT;
        }
        if (what == 0) {
            return crosses.least;
        }
        int k = (what - 1) / 2;
        return what % 2 == 1 ? crosses.moreLeft[k] : crosses.moreRight[k];
    }

    public int mended(int move, int d, int what) {
        if (!moves.has(move) || !isWithin(d, 0, GREATEST_DOUBT) || !isAxis(what) || !crosses.solve(d)) {
            return NO_SUCH;
        }
        int k = crosses.latestAhead(move);
        if (k < 0) {
            return realNumber(move, 0, 0, what);
        }
        return realNumber(move, crosses.moreLeft[k], crosses.moreRight[k], what);
    }

    public int other() {
        others.copy(moves);
        return others.number;
    }

    public int clear(int v, int d, int i, int k) {
        if (!isPairing(v, d) || !isWithin(i, 0, moves.number) || !isWithin(k, 0, others.number)) {
            return NONE;
        }
        return duo.isClear(v, d, i, k) ? 1 : 0;
    }

    public int together(int v, int d) {
        return isPairing(v, d) ? duo.fewestTicks(v, d) : NONE;
    }

    public int joint(int v, int x, int what) {
        if (!isWithin(v, 1, wall.width) || !isWithin(what, 0, 3)) {
            return NONE;
        }
        duo.join(v, x);
        switch (what) {
            case 0: return duo.pairs;
            case 1: return duo.gapSum;
            case 2: return duo.greatestGap;
            default: return duo.unpaired;
        }
    }

    public int mark(int x1, int y1, int x2, int y2) {
        return pens.append((long) x2 - x1, (long) y2 - y1);
    }

    public int offset(int d, int what) {
        if (!isWithin(d, 0, 99) || !isWithin(what, 0, 2)) {
            return NO_SUCH;
        }
        pens.fit(d);
        switch (what) {
            case 0: return pens.bestX;
            case 1: return pens.bestY;
            default: return pens.bestFit;
        }
    }

    public void begin() {
        course.start();
    }

    public int tick(int n) {
        return course.going && isWithin(n, 0, 100000) ? course.advance(n) : NONE;
    }

    public int run(int what) {
        if (!course.going) {
            return NO_SUCH;
        }
        switch (what) {
            case 0: return course.move;
            case 1: return course.done;
            case 2: return placeNumber(course.trueSteps(LEFT), course.trueSteps(RIGHT), 0);
            case 3: return placeNumber(course.trueSteps(LEFT), course.trueSteps(RIGHT), 1);
            case 4: return course.move >= moves.number ? 1 : 0;
            default: return NO_SUCH;
        }
    }

    public int count(int what) {
        switch (what) {
            case 0: return wall.width;
            case 1: return wall.height;
            case 2: return wall.fineness;
            case 3: return wall.stretch;
            case 4: return wall.weight;
            case 5: return wall.limit;
            case 6: return moves.number;
            case 7: return others.number;
            case 8: return crosses.number;
            case 9: return pens.number;
            default: return NONE;
        }
    }

    private void dropWhatHangsOnMoves() {
        moves.dropMissed();
        crosses.removeAll();
        course.going = false;
    }

    private boolean isPairing(int v, int d) {
        return isWithin(v, 1, wall.width) && isWithin(d, 0, 50);
    }

    private int placeNumber(int left, int right, int axis) {
        wall.locate(left, right);
        return (int) (axis == 0 ? wall.placeX : wall.placeY);
    }

    private int realNumber(int move, int offLeft, int offRight, int axis) {
        int left = moves.left[move + 1] + moves.missedBy(move, LEFT) - offLeft;
        int right = moves.right[move + 1] + moves.missedBy(move, RIGHT) - offRight;
        return placeNumber(left, right, axis);
    }

    private static boolean isWithin(int n, int low, int high) {
        return n >= low && n <= high;
    }

    private static boolean isCord(int what) {
        return what == LEFT || what == RIGHT;
    }

    private static boolean isAxis(int what) {
        return what == 0 || what == 1;
    }

    private static long sizeOf(long n) {
        return n < 0 ? -n : n;
    }

    /**
     * ROOT by Newton's way from a guess: what it answers doesn't hang on the guess, but near ones spare rounds,
     * and the PLACES of a MOVE's TICKS lie near one another.
     */
    private static long root(long n, long guess) {
        if (n <= 0) {
            return 0;
        }
        long start = guess > 0 ? guess : 1;
        long r = (start + n / start) / 2;
        for (int round = 0; round < 200 && r > 0; round++) {
            long next = (r + n / r) / 2;
            if (next >= r) {
                return r;
            }
            r = next;
        }
        return r;
    }

    /** THE WALL: STEPS of places, PLACES of STEPS, GRAIN and PULL. */
    private static final class Wall {
        int width = 100;
        int height = 100;
        int fineness = 4;
        int stretch = 0;
        int weight = 1;
        int limit = 9999;
        /** The PLACE that locate() came to last. */
        long placeX = 0;
        long placeY = 0;
        private int knownReach = NONE;

        boolean holds(int x, int y) {
            return isWithin(x, 0, 100 * width) && isWithin(y, 0, 100 * height);
        }

        private long hung(long n) {
            return n + n * stretch / 10000;
        }

        int leftSteps(long x, long y) {
            long squares = (long) fineness * fineness * (x * x + y * y);
            long length = root(squares, fineness * (x + y)) / 100;
            // HUNG of n isn't above the length just if n (10000 + E) is below 10000 (length + 1).
            return (int) ((10000 * (length + 1) - 1) / (10000 + stretch));
        }

        int rightSteps(long x, long y) {
            return leftSteps(100L * width - x, y);
        }

        void locate(long left, long right) {
            long a = hung(left);
            long b = hung(right);
            long square = (long) fineness * fineness;
            placeX = 100 * (a * a - b * b + square * width * width) / (2 * square * width);
            placeY = root(10000 * a * a / square - placeX * placeX, placeY);
        }

        int grainAt(int x, int y) {
            int left = leftSteps(x, y);
            int right = rightSteps(x, y);
            locate(left, right);
            long fromX = placeX;
            long fromY = placeY;
            long most = awayFrom(fromX, fromY, left + 1, right);
            most = Math.max(most, awayFrom(fromX, fromY, left - 1, right));
            most = Math.max(most, awayFrom(fromX, fromY, left, right + 1));
            return (int) Math.max(most, awayFrom(fromX, fromY, left, right - 1));
        }

        private long awayFrom(long fromX, long fromY, int left, int right) {
            locate(left, right);
            return sizeOf(placeX - fromX) + sizeOf(placeY - fromY);
        }

        int leftPull(int x, int y) {
            if (y < 1) {
                return 0;
            }
            long load = (long) weight * leftSteps(100L * x, 100L * y) * (width - x);
            return (int) (load / ((long) fineness * width * y));
        }

        /** The right cord at x pulls as the left one does as far from the other side. */
        int rightPull(int x, int y) {
            return leftPull(width - x, y);
        }

        boolean bears(int x, int y) {
            return leftPull(x, y) <= limit && rightPull(x, y) <= limit;
        }

        void forgetReach() {
            knownReach = NONE;
        }

        /** Kept until something is set, for it looks at every place of THE WALL. */
        int countReach() {
            if (knownReach != NONE) {
                return knownReach;
            }
            int sum = 0;
            for (int y = 1; y <= height; y++) {
                for (int x = 0; x <= width; x++) {
                    if (bears(x, y)) {
                        sum++;
                    }
                }
            }
            knownReach = sum;
            return sum;
        }
    }

    /** The TAPE, and the TOKENS of its first bytes. */
    private static final class Tape {
        static final int MOST_BYTES = 500;
        static final int END = 0;
        static final int WORD = 1;
        static final int NUMBER = 2;
        private static final int NO_TOKEN = 3;
        private static final int BLANK = 4;
        /** Numbers are held up to this one: more is too much everywhere. */
        private static final int TOO_MUCH = 1000;

        int size = 0;
        /** The TOKEN at hand: its kind (signs are their own kind), where it begins, where it ends, its number. */
        int kind = END;
        int start = 0;
        int end = 0;
        int value = 0;
        private int textLength = 0;
        private final byte[] bytes = new byte[MOST_BYTES];

        void append(int four) {
            for (int shift = 24; shift >= 0 && size < MOST_BYTES; shift -= 8) {
                bytes[size] = (byte) (four >> shift);
                size++;
            }
        }

        void open(int n) {
            textLength = Math.min(Math.max(n, 0), size);
            end = 0;
            step();
        }

        /** Goes on to the next TOKEN. */
        void step() {
            start = end;
            while (start < textLength && kindOf(bytes[start]) == BLANK) {
                start++;
            }
            end = start;
            value = 0;
            kind = start < textLength ? kindOf(bytes[start]) : END;
            boolean isLong = kind == WORD || kind == NUMBER;
            while (end < textLength && (end == start || (isLong && kindOf(bytes[end]) == kind))) {
                if (kind == NUMBER) {
                    value = Math.min(10 * value + bytes[end] - '0', TOO_MUCH);
                }
                end++;
            }
        }

        private static int kindOf(int c) {
            if (c >= 'a' && c <= 'z') {
                return WORD;
            }
            if (c >= '0' && c <= '9') {
                return NUMBER;
            }
            if (c == 10 || c == 32) {
                return BLANK;
            }
            return c == ';' || c == '(' || c == ')' || c == '-' ? c : NO_TOKEN;
        }

        boolean spells(String word) {
            if (kind != WORD || end - start != word.length()) {
                return false;
            }
            for (int i = 0; i < word.length(); i++) {
                if (bytes[start + i] != word.charAt(i)) {
                    return false;
                }
            }
            return true;
        }

        /** Whether the TOKEN at hand has the same letters as the word between these places. */
        boolean repeats(int from, int to) {
            if (kind != WORD || end - start != to - from) {
                return false;
            }
            for (int i = 0; i < to - from; i++) {
                if (bytes[start + i] != bytes[from + i]) {
                    return false;
                }
            }
            return true;
        }
    }

    /** A text without FAULT: its S in a row, an again ahead of what it holds, and its FORMS. */
    private static final class Script {
        static final int MOST_S = 60;
        static final int MOST_FORMS = 8;
        static final int MOST_POINTS = 12;
        static final int FORM = 0;
        static final int PUT = 1;
        static final int LINE = 2;
        static final int TO = 3;
        static final int HATCH = 4;
        static final int CLIP = 5;
        static final int AGAIN = 6;
        private static final int NUMBERS = 5;

        int size = 0;
        int forms = 0;
        final int[] verb = new int[MOST_S];
        /** Of an again the last S that it holds (itself, if none). */
        final int[] last = new int[MOST_S];
        /** Of a put the FORM. */
        final int[] form = new int[MOST_S];
        private final int[] numbers = new int[NUMBERS * MOST_S];
        final int[] nameStart = new int[MOST_FORMS];
        final int[] nameEnd = new int[MOST_FORMS];
        final int[] points = new int[MOST_FORMS];
        final int[] pointX = new int[MOST_FORMS * MOST_POINTS];
        final int[] pointY = new int[MOST_FORMS * MOST_POINTS];

        int add(int kind) {
            int s = size;
            verb[s] = kind;
            last[s] = s;
            form[s] = 0;
            size++;
            return s;
        }

        void put(int s, int place, int n) {
            numbers[NUMBERS * s + place] = n;
        }

        int get(int s, int place) {
            return numbers[NUMBERS * s + place];
        }

        int addForm(int from, int to) {
            int f = forms;
            nameStart[f] = from;
            nameEnd[f] = to;
            points[f] = 0;
            forms++;
            return f;
        }

        void addPoint(int f, int x, int y) {
            if (points[f] < MOST_POINTS) {
                int at = MOST_POINTS * f + points[f];
                pointX[at] = x;
                pointY[at] = y;
                points[f]++;
            }
        }
    }

    /** Reads a text into a Script, up to its first FAULT. */
    private static final class Parser {
        private static final int WRONG = 1;
        private static final int TOO_MUCH = 2;
        private static final int TOLD_ALREADY = 3;
        private static final int NOT_TOLD = 4;
        private static final int NO_WINDOW = 5;
        private static final int LONGEST_NAME = 6;
        private static final int MOST_OPEN = 5;

        private final Tape tape;
        private final Script script;
        int fault = 0;
        int faultAt = NONE;
        private int open = 0;
        private final int[] opened = new int[MOST_OPEN];

        Parser(Tape tape, Script script) {
            this.tape = tape;
            this.script = script;
        }

        /** Reads the TAPE's first n bytes; whether they are without FAULT. */
        boolean read(int n) {
            fault = 0;
            faultAt = NONE;
            open = 0;
            script.size = 0;
            script.forms = 0;
            tape.open(n);
            // Each round takes a byte at least.
            for (int round = 0; round <= Tape.MOST_BYTES; round++) {
                if (fault != 0 || tape.kind == Tape.END) {
                    break;
                }
                if (tape.kind == ')' && open > 0) {
                    open--;
                    script.last[opened[open]] = script.size - 1;
                    tape.step();
                } else {
                    readStatement();
                }
            }
            if (open > 0) {
                fail(WRONG);
            }
            return fault == 0;
        }

        private void readStatement() {
            int verb = verbAtHand();
            if (verb == NONE) {
                fail(WRONG);
                return;
            }
            boolean isNinthForm = verb == Script.FORM && script.forms >= Script.MOST_FORMS;
            if (script.size >= Script.MOST_S || isNinthForm) {
                fail(TOO_MUCH);
                return;
            }
            tape.step();
            int s = script.add(verb);
            if (verb == Script.AGAIN) {
                readAgain(s);
            } else {
                readNumbers(s, verb);
                takeSign(';');
            }
        }

        private int verbAtHand() {
            if (tape.spells("form")) return Script.FORM;
            if (tape.spells("put")) return Script.PUT;
            if (tape.spells("line")) return Script.LINE;
            if (tape.spells("to")) return Script.TO;
            if (tape.spells("hatch")) return Script.HATCH;
            if (tape.spells("clip")) return Script.CLIP;
            if (tape.spells("again")) return Script.AGAIN;
            return NONE;
        }

        private void readNumbers(int s, int verb) {
            switch (verb) {
                case Script.FORM:
                    readForm();
                    break;
                case Script.PUT:
                    readFormName(s);
                    script.put(s, 0, takeNumber(0, 999));
                    script.put(s, 1, takeNumber(0, 999));
                    script.put(s, 2, takeNumber(0, 99));
                    break;
                case Script.CLIP:
                    script.put(s, 0, takeNumber(0, 999));
                    script.put(s, 1, takeNumber(0, 999));
                    checkAbove(script.get(s, 0));
                    script.put(s, 2, takeNumber(0, 999));
                    checkAbove(script.get(s, 1));
                    script.put(s, 3, takeNumber(0, 999));
                    break;
                default:
                    int many = verb == Script.TO ? 2 : 4;
                    for (int i = 0; i < many; i++) {
                        script.put(s, i, takeNumber(0, 999));
                    }
                    if (verb == Script.HATCH) {
                        script.put(s, 4, takeNumber(1, 99));
                    }
                    break;
            }
        }

        private void readForm() {
            checkName();
            if (formAtHand() != NONE) {
                fail(TOLD_ALREADY);
            }
            if (fault != 0) {
                return;
            }
            int form = script.addForm(tape.start, tape.end);
            tape.step();
            for (int p = 0; p < Script.MOST_POINTS; p++) {
                if (fault == 0 && (p == 0 || tape.kind == Tape.NUMBER)) {
                    int x = takeNumber(0, 99);
                    int y = takeNumber(0, 99);
                    script.addPoint(form, x, y);
                }
            }
            if (tape.kind == Tape.NUMBER) {
                fail(TOO_MUCH);
            }
        }

        private void readFormName(int s) {
            checkName();
            int form = formAtHand();
            if (form == NONE) {
                fail(NOT_TOLD);
            }
            if (fault == 0) {
                script.form[s] = form;
                tape.step();
            }
        }

        private void readAgain(int s) {
            script.put(s, 0, takeNumber(0, 99));
            script.put(s, 1, takeSigned());
            script.put(s, 2, takeSigned());
            if (tape.kind == '(' && open >= MOST_OPEN) {
                fail(TOO_MUCH);
            }
            takeSign('(');
            if (fault == 0) {
                opened[open] = s;
                open++;
            }
        }

        private void checkName() {
            if (tape.kind != Tape.WORD || tape.end - tape.start > LONGEST_NAME || verbAtHand() != NONE) {
                fail(WRONG);
            }
        }

        private int formAtHand() {
            for (int f = 0; f < script.forms; f++) {
                if (tape.repeats(script.nameStart[f], script.nameEnd[f])) {
                    return f;
                }
            }
            return NONE;
        }

        /** The number at hand; 0, and nothing is taken, behind a FAULT. */
        private int takeNumber(int low, int high) {
            int n = tape.value;
            if (tape.kind != Tape.NUMBER) {
                fail(WRONG);
            } else if (!isWithin(n, low, high)) {
                fail(TOO_MUCH);
            }
            if (fault != 0) {
                return 0;
            }
            tape.step();
            return n;
        }

        private void checkAbove(int floor) {
            if (tape.kind == Tape.NUMBER && tape.value <= floor) {
                fail(NO_WINDOW);
            }
        }

        private int takeSigned() {
            if (fault == 0 && tape.kind == '-') {
                tape.step();
                return -takeNumber(0, 999);
            }
            return takeNumber(0, 999);
        }

        private void takeSign(int sign) {
            if (tape.kind != sign) {
                fail(WRONG);
            }
            if (fault == 0) {
                tape.step();
            }
        }

        /** A FAULT of the TOKEN at hand, unless there is one ahead of it. */
        private void fail(int kind) {
            if (fault == 0) {
                fault = kind;
                faultAt = tape.start;
            }
        }
    }

    /** The MOVES of a DRAWING. The rows begin with HOME: MOVE m goes from their place m to m + 1. */
    private static final class Moves {
        int number = 0;
        final int[] x = new int[MOST_MOVES + 1];
        final int[] y = new int[MOST_MOVES + 1];
        final boolean[] down = new boolean[MOST_MOVES + 1];
        final int[] left = new int[MOST_MOVES + 1];
        final int[] right = new int[MOST_MOVES + 1];
        /** MISSED steps, of each MOVE the left and the right cord's. */
        final int[] missed = new int[2 * MOST_MOVES];
        private final Wall wall;

        Moves(Wall wall) {
            this.wall = wall;
        }

        boolean has(int move) {
            return move >= 0 && move < number;
        }

        void goHome() {
            number = 0;
            x[0] = wall.width / 2;
            y[0] = wall.height;
            down[0] = false;
            measureOne(0);
        }

        /** Without its STEPS: measure() finds those of all. False: there are as many as may be. */
        boolean append(int toX, int toY, boolean isDown) {
            if (number >= MOST_MOVES) {
                return false;
            }
            number++;
            x[number] = toX;
            y[number] = toY;
            down[number] = isDown;
            return true;
        }

        boolean penIsAt(int atX, int atY) {
            return x[number] == atX && y[number] == atY;
        }

        void measure() {
            for (int p = 0; p <= number; p++) {
                measureOne(p);
            }
        }

        private void measureOne(int p) {
            left[p] = wall.leftSteps(100L * x[p], 100L * y[p]);
            right[p] = wall.rightSteps(100L * x[p], 100L * y[p]);
        }

        void copy(Moves from) {
            number = from.number;
            for (int p = 0; p <= number; p++) {
                x[p] = from.x[p];
                y[p] = from.y[p];
                down[p] = from.down[p];
                left[p] = from.left[p];
                right[p] = from.right[p];
            }
        }

        int ticksOf(int move) {
            return Math.max(Math.abs(left[move + 1] - left[move]), Math.abs(right[move + 1] - right[move]));
        }

        void dropMissed() {
            for (int i = 0; i < 2 * MOST_MOVES; i++) {
                missed[i] = 0;
            }
        }

        int missedBy(int move, int cord) {
            int sum = 0;
            for (int m = 0; m <= move && m < number; m++) {
                sum += missed[2 * m + cord];
            }
            return sum;
        }

        /** STEPS behind TICK i of n, from those at first to those at last. */
        static int between(int first, int last, int i, int n) {
            return n > 0 ? first + i * (last - first) / n : first;
        }
    }

    /** Does what a Script says: MOVES come of it. */
    private static final class Plotter {
        private static final int MOST_DONE = 3000;
        private static final int DEEPEST = 5;

        private final Wall wall;
        private final Script script;
        private final Moves moves;
        private int shiftX = 0;
        private int shiftY = 0;
        private int windowLeft = 0;
        private int windowTop = 0;
        private int windowRight = 0;
        private int windowBottom = 0;
        private int done = 0;
        private boolean full = false;
        /** The LINE that is being cut: x and y of its first end, then of its second one. */
        private final int[] ends = new int[4];

        Plotter(Wall wall, Script script, Moves moves) {
            this.wall = wall;
            this.script = script;
            this.moves = moves;
        }

        /** Whether it was FULL. */
        boolean plotAll() {
            moves.goHome();
            shiftX = 0;
            shiftY = 0;
            windowLeft = 0;
            windowTop = 1;
            windowRight = wall.width;
            windowBottom = wall.height;
            done = 0;
            full = false;
            perform(0, script.size, 0);
            return full;
        }

        private void perform(int from, int to, int depth) {
            for (int s = from; s < to && !full; s++) {
                if (done >= MOST_DONE) {
                    full = true;
                    return;
                }
                done++;
                switch (script.verb[s]) {
                    case Script.AGAIN:
                        repeat(s, depth);
                        s = Math.max(s, script.last[s]);
                        break;
                    case Script.PUT:
                        drawForm(s);
                        break;
                    case Script.LINE:
                        drawLine(script.get(s, 0), script.get(s, 1), script.get(s, 2), script.get(s, 3));
                        break;
                    case Script.TO:
                        goTo(script.get(s, 0) + shiftX, script.get(s, 1) + shiftY);
                        break;
                    case Script.HATCH:
                        drawHatch(s);
                        break;
                    case Script.CLIP:
                        narrow(s);
                        break;
                    default:
                        // A FORM's points stand in the Script already.
                        break;
                }
            }
        }

        private void repeat(int s, int depth) {
            if (depth >= DEEPEST) {
                return;
            }
            int oldX = shiftX;
            int oldY = shiftY;
            int oldLeft = windowLeft;
            int oldTop = windowTop;
            int oldRight = windowRight;
            int oldBottom = windowBottom;
            int times = script.get(s, 0);
            for (int i = 0; i < times && !full; i++) {
                perform(s + 1, script.last[s] + 1, depth + 1);
                shiftX += script.get(s, 1);
                shiftY += script.get(s, 2);
            }
            shiftX = oldX;
            shiftY = oldY;
            windowLeft = oldLeft;
            windowTop = oldTop;
            windowRight = oldRight;
            windowBottom = oldBottom;
        }

        private void narrow(int s) {
            windowLeft = Math.max(script.get(s, 0), 0);
            windowTop = Math.max(script.get(s, 1), 1);
            windowRight = Math.min(script.get(s, 2), wall.width);
            windowBottom = Math.min(script.get(s, 3), wall.height);
        }

        private void drawForm(int s) {
            int x = script.get(s, 0);
            int y = script.get(s, 1);
            int size = script.get(s, 2);
            int first = Script.MOST_POINTS * script.form[s];
            int behind = first + script.points[script.form[s]];
            for (int p = first + 1; p < behind && !full; p++) {
                drawLine(x + size * script.pointX[p - 1], y + size * script.pointY[p - 1],
                        x + size * script.pointX[p], y + size * script.pointY[p]);
            }
        }

        private void drawHatch(int s) {
            int x1 = script.get(s, 0);
            int x2 = script.get(s, 2);
            int y1 = script.get(s, 1);
            int gap = Math.max(script.get(s, 4), 1);
            // Of LINES above or below the WINDOW nothing is left: they count for the turns alone.
            int above = Math.max(windowTop - shiftY - y1, 0);
            int bottom = Math.min(script.get(s, 3), windowBottom - shiftY);
            for (int i = (above + gap - 1) / gap; y1 + i * gap <= bottom && !full; i++) {
                boolean isBack = i % 2 == 1;
                drawLine(isBack ? x2 : x1, y1 + i * gap, isBack ? x1 : x2, y1 + i * gap);
            }
        }

        private void goTo(int x, int y) {
            boolean inWindow = isWithin(x, windowLeft, windowRight) && isWithin(y, windowTop, windowBottom);
            if (inWindow && !moves.penIsAt(x, y)) {
                full = !moves.append(x, y, false);
            }
        }

        private void drawLine(int x1, int y1, int x2, int y2) {
            ends[0] = x1 + shiftX;
            ends[1] = y1 + shiftY;
            ends[2] = x2 + shiftX;
            ends[3] = y2 + shiftY;
            boolean isLeft = cut(0, windowLeft, 1) && cut(0, windowRight, -1)
                    && cut(1, windowTop, 1) && cut(1, windowBottom, -1);
            if (!isLeft) {
                return;
            }
            if (!moves.penIsAt(ends[0], ends[1])) {
                full = !moves.append(ends[0], ends[1], false);
            }
            if (!full && (ends[0] != ends[2] || ends[1] != ends[3])) {
                full = !moves.append(ends[2], ends[3], true);
            }
        }

        /** Cuts the LINE by a side; inward is 1 or -1, where the WINDOW is. False: nothing is left. */
        private boolean cut(int axis, int side, int inward) {
            boolean firstBeyond = (ends[axis] - side) * inward < 0;
            boolean secondBeyond = (ends[axis + 2] - side) * inward < 0;
            if (firstBeyond && secondBeyond) {
                return false;
            }
            if (firstBeyond) {
                bringToSide(0, 2, axis, side);
            } else if (secondBeyond) {
                bringToSide(2, 0, axis, side);
            }
            return true;
        }

        private void bringToSide(int own, int otherEnd, int axis, int side) {
            int across = 1 - axis;
            int span = ends[otherEnd + axis] - ends[own + axis];
            if (span == 0) {
                return;
            }
            int rise = ends[otherEnd + across] - ends[own + across];
            ends[own + across] += rise * (side - ends[own + axis]) / span;
            ends[own + axis] = side;
        }
    }

    /** How truly MOVES are drawn: SAG, parts, SKIPS. */
    private static final class Trace {
        private static final int MOST_PARTS = 64;

        private final Wall wall;
        private final Moves moves;
        /** The straight line from which distances are told. */
        private long fromX = 0;
        private long fromY = 0;
        private long dx = 0;
        private long dy = 0;
        private long length = 1;

        Trace(Wall wall, Moves moves) {
            this.wall = wall;
            this.moves = moves;
        }

        int sagOf(int move) {
            wall.locate(moves.left[move + 1], moves.right[move + 1]);
            long toX = wall.placeX;
            long toY = wall.placeY;
            wall.locate(moves.left[move], moves.right[move]);
            aim(wall.placeX, wall.placeY, toX, toY);
            long most = furthest(moves.left[move], moves.right[move],
                    moves.left[move + 1], moves.right[move + 1], 2147483647L);
            return (int) most;
        }

        int fewestParts(int move, int e) {
            aim(100L * moves.x[move], 100L * moves.y[move], 100L * moves.x[move + 1], 100L * moves.y[move + 1]);
            for (int p = 1; p <= MOST_PARTS; p++) {
                if (isTrue(move, p, e)) {
                    return p;
                }
            }
            return NONE;
        }

        private boolean isTrue(int move, int p, int e) {
            int left = moves.left[move];
            int right = moves.right[move];
            for (int i = 1; i <= p; i++) {
                long x = fromX + i * dx / p;
                long y = fromY + i * dy / p;
                int toLeft = wall.leftSteps(x, y);
                int toRight = wall.rightSteps(x, y);
                if (furthest(left, right, toLeft, toRight, e) > e) {
                    return false;
                }
                left = toLeft;
                right = toRight;
            }
            return true;
        }

        private void aim(long x1, long y1, long x2, long y2) {
            fromX = x1;
            fromY = y1;
            dx = x2 - x1;
            dy = y2 - y1;
            length = Math.max(root(dx * dx + dy * dy, sizeOf(dx) + sizeOf(dy)), 1);
        }

        /** The greatest distance over TICKS, from TICK 0 on; the first one beyond enough, if there is one. */
        private long furthest(int left, int right, int toLeft, int toRight, long enough) {
            int n = Math.max(Math.abs(toLeft - left), Math.abs(toRight - right));
            long most = 0;
            for (int i = 0; i <= n && most <= enough; i++) {
                wall.locate(Moves.between(left, toLeft, i, n), Moves.between(right, toRight, i, n));
                most = Math.max(most, sizeOf(dx * (wall.placeY - fromY) - dy * (wall.placeX - fromX)) / length);
            }
            return most;
        }

        int countSkips(int v) {
            int sum = 0;
            for (int m = 0; m < moves.number; m++) {
                if (moves.down[m + 1]) {
                    sum += skipsOf(m, v);
                }
            }
            return sum;
        }

        private int skipsOf(int m, int v) {
            int n = moves.ticksOf(m);
            int sum = 0;
            wall.locate(moves.left[m], moves.right[m]);
            for (int i = 1; i <= n; i++) {
                long x = wall.placeX;
                long y = wall.placeY;
                wall.locate(Moves.between(moves.left[m], moves.left[m + 1], i, n),
                        Moves.between(moves.right[m], moves.right[m + 1], i, n));
                if (sizeOf(wall.placeX - x) + sizeOf(wall.placeY - y) > v) {
                    sum++;
                }
            }
            return sum;
        }
    }

    /** CROSSES, and what is FOUND by them. */
    private static final class Crosses {
        private static final int MOST = 12;
        private static final int WIDEST = 6;
        private static final int SIDE = 2 * WIDEST + 1;
        private static final int FIELDS = SIDE * SIDE;
        private static final int FAR = 1000000;

        int number = 0;
        /** What solve() came to last: the least sum, and of each CROSS how many STEPS there are more. */
        int least = 0;
        final int[] moreLeft = new int[MOST];
        final int[] moreRight = new int[MOST];
        private final int[] move = new int[MOST];
        private final int[] x = new int[MOST];
        private final int[] y = new int[MOST];
        /** Of each CROSS and each l, r there: the least sum of changes behind it; FAR, if that doesn't fit. */
        private final int[] behind = new int[MOST * FIELDS];
        /** Of each l, r ahead of a CROSS: the least sum of changes from there on. */
        private final int[] onward = new int[FIELDS];
        private final Wall wall;
        private final Moves moves;

        Crosses(Wall wall, Moves moves) {
            this.wall = wall;
            this.moves = moves;
        }

        int append(int ofMove, int atX, int atY) {
            if (number >= MOST || (number > 0 && move[number - 1] >= ofMove)) {
                return NONE;
            }
            move[number] = ofMove;
            x[number] = atX;
            y[number] = atY;
            number++;
            return number;
        }

        int removeAll() {
            int were = number;
            number = 0;
            return were;
        }

        int latestAhead(int ofMove) {
            int latest = NONE;
            for (int k = 0; k < number && move[k] < ofMove; k++) {
                latest = k;
            }
            return latest;
        }

        /** From the last CROSS back to the first one, then the least l, r of least sum from the first one on. */
        boolean solve(int doubt) {
            for (int f = 0; f < FIELDS; f++) {
                onward[f] = 0;
            }
            for (int k = number - 1; k >= 0; k--) {
                weigh(k, doubt);
                spread();
            }
            least = number == 0 ? 0 : onward[WIDEST * SIDE + WIDEST];
            if (least >= FAR) {
                return false;
            }
            chooseLeast();
            return true;
        }

        private void weigh(int k, int doubt) {
            for (int f = 0; f < FIELDS; f++) {
                int cost = fits(k, f / SIDE - WIDEST, f % SIDE - WIDEST, doubt) ? onward[f] : FAR;
                behind[k * FIELDS + f] = cost;
                onward[f] = cost;
            }
        }

        private boolean fits(int k, int l, int r, int doubt) {
            int m = move[k];
            if (!moves.has(m)) {
                return false;
            }
            wall.locate(moves.left[m + 1] + l, moves.right[m + 1] + r);
            return sizeOf(wall.placeX - x[k]) <= doubt && sizeOf(wall.placeY - y[k]) <= doubt;
        }

        /** A change of one STEP costs one: so going over the fields forth and back reaches all from all. */
        private void spread() {
            for (int f = 0; f < FIELDS; f++) {
                if (f >= SIDE) {
                    onward[f] = Math.min(onward[f], onward[f - SIDE] + 1);
                }
                if (f % SIDE > 0) {
                    onward[f] = Math.min(onward[f], onward[f - 1] + 1);
                }
            }
            for (int f = FIELDS - 1; f >= 0; f--) {
                if (f + SIDE < FIELDS) {
                    onward[f] = Math.min(onward[f], onward[f + SIDE] + 1);
                }
                if (f % SIDE < SIDE - 1) {
                    onward[f] = Math.min(onward[f], onward[f + 1] + 1);
                }
            }
        }

        private void chooseLeast() {
            int l = 0;
            int r = 0;
            int rest = least;
            for (int k = 0; k < number; k++) {
                int f = firstField(k, l, r, rest);
                l = f / SIDE - WIDEST;
                r = f % SIDE - WIDEST;
                moreLeft[k] = l;
                moreRight[k] = r;
                rest = behind[k * FIELDS + f];
            }
        }

        /** Fields are in the order of l, then r. */
        private int firstField(int k, int l, int r, int rest) {
            for (int f = 0; f < FIELDS; f++) {
                int change = Math.abs(f / SIDE - WIDEST - l) + Math.abs(f % SIDE - WIDEST - r);
                if (change + behind[k * FIELDS + f] == rest) {
                    return f;
                }
            }
            return 0;
        }
    }

    /** TWO machines: where they are CLEAR, TOGETHER, and JOINTS. */
    private static final class Duo {
        private static final int FAR = 1000000000;

        int pairs = 0;
        int gapSum = 0;
        int greatestGap = 0;
        int unpaired = 0;
        private final Wall wall;
        private final Moves first;
        private final Moves second;
        /** Of the other one's MOVES behind it: the fewest TICKS, with the first one's told last. */
        private final int[] fewest = new int[MOST_MOVES + 1];
        private final int[] firstHeights = new int[2 * MOST_MOVES];
        private final int[] secondHeights = new int[2 * MOST_MOVES];

        Duo(Wall wall, Moves first, Moves second) {
            this.wall = wall;
            this.first = first;
            this.second = second;
        }

        /** i and k are at most the numbers of MOVES. */
        boolean isClear(int v, int d, int i, int k) {
            int otherX = second.x[k] + v;
            return isAway(first.x[i], first.y[i], v, otherX, second.y[k], d)
                    && isAway(otherX, second.y[k], wall.width, first.x[i], first.y[i], d);
        }

        /** Whether a pen is at least d away from the cord that hangs from (hook, 0) and ends at (endX, endY). */
        private static boolean isAway(int penX, int penY, int hook, int endX, int endY, int d) {
            long cordX = endX - hook;
            long cordY = endY;
            long x = penX - hook;
            long y = penY;
            long square = (long) d * d;
            long cordSquare = cordX * cordX + cordY * cordY;
            long along = x * cordX + y * cordY;
            if (along <= 0) {
                return x * x + y * y >= square;
            }
            if (along >= cordSquare) {
                return (x - cordX) * (x - cordX) + (y - cordY) * (y - cordY) >= square;
            }
            long cross = x * cordY - y * cordX;
            return cross * cross >= square * cordSquare;
        }

        int fewestTicks(int v, int d) {
            for (int i = 0; i <= first.number; i++) {
                int aslant = FAR;
                for (int k = 0; k <= second.number; k++) {
                    int above = i > 0 ? fewest[k] : FAR;
                    int best = i == 0 && k == 0 ? 0 : FAR;
                    if (i > 0) {
                        best = Math.min(best, above + first.ticksOf(i - 1));
                    }
                    if (k > 0) {
                        best = Math.min(best, fewest[k - 1] + second.ticksOf(k - 1));
                    }
                    if (i > 0 && k > 0) {
                        best = Math.min(best, aslant + Math.max(first.ticksOf(i - 1), second.ticksOf(k - 1)));
                    }
                    fewest[k] = best < FAR && isClear(v, d, i, k) ? best : FAR;
                    aslant = above;
                }
            }
            return fewest[second.number] < FAR ? fewest[second.number] : CANNOT;
        }

        void join(int v, int x) {
            int many = gather(first, x, firstHeights);
            int others = gather(second, (long) x - v, secondHeights);
            pairs = Math.min(many, others);
            unpaired = Math.abs(many - others);
            gapSum = 0;
            greatestGap = 0;
            for (int i = 0; i < pairs; i++) {
                int gap = Math.abs(firstHeights[i] - secondHeights[i]);
                gapSum += gap;
                greatestGap = Math.max(greatestGap, gap);
            }
        }

        /** Heights of ends of LINES at x, rising; how many they are. */
        private static int gather(Moves of, long x, int[] heights) {
            int many = 0;
            for (int m = 0; m < of.number; m++) {
                if (!of.down[m + 1]) {
                    continue;
                }
                if (of.x[m] == x) {
                    sortIn(heights, many, of.y[m]);
                    many++;
                }
                if (of.x[m + 1] == x) {
                    sortIn(heights, many, of.y[m + 1]);
                    many++;
                }
            }
            return many;
        }

        private static void sortIn(int[] heights, int many, int height) {
            int at = many;
            while (at > 0 && heights[at - 1] > height) {
                heights[at] = heights[at - 1];
                at--;
            }
            heights[at] = height;
        }
    }

    /** PENS: of each pair how far the second place is from the first one. */
    private static final class Pens {
        private static final int MOST = 20;
        private static final int WIDEST = 20;

        int number = 0;
        /** What fit() came to last. */
        int bestX = 0;
        int bestY = 0;
        int bestFit = 0;
        private final long[] awayX = new long[MOST];
        private final long[] awayY = new long[MOST];

        int append(long x, long y) {
            if (number >= MOST) {
                return NONE;
            }
            awayX[number] = x;
            awayY[number] = y;
            number++;
            return number;
        }

        void fit(int doubt) {
            bestFit = NONE;
            for (int x = -WIDEST; x <= WIDEST; x++) {
                for (int y = -WIDEST; y <= WIDEST; y++) {
                    int many = countFits(x, y, doubt);
                    if (many > bestFit) {
                        bestFit = many;
                        bestX = x;
                        bestY = y;
                    }
                }
            }
        }

        private int countFits(int x, int y, int doubt) {
            int many = 0;
            for (int i = 0; i < number; i++) {
                if (sizeOf(awayX[i] - x) <= doubt && sizeOf(awayY[i] - y) <= doubt) {
                    many++;
                }
            }
            return many;
        }
    }

    /** A RUN through the MOVES, TICK by TICK. */
    private static final class Run {
        boolean going = false;
        int move = 0;
        int done = 0;
        private int inAll = 0;
        private final Moves moves;

        Run(Moves moves) {
            this.moves = moves;
        }

        void start() {
            going = true;
            move = 0;
            done = 0;
            inAll = 0;
            advance(0);
        }

        /** As one MOVE ends the next one goes on at once: so those without a TICK are behind the pen, too. */
        int advance(int n) {
            int rest = n;
            for (int m = move; m < moves.number; m++) {
                int toEnd = moves.ticksOf(m) - done;
                if (toEnd > rest) {
                    done += rest;
                    inAll += rest;
                    return inAll;
                }
                inAll += toEnd;
                rest -= toEnd;
                done = 0;
                move = m + 1;
            }
            return inAll;
        }

        int trueSteps(int cord) {
            int[] row = cord == LEFT ? moves.left : moves.right;
            int told = row[Math.min(move, moves.number)];
            if (moves.has(move)) {
                told = Moves.between(row[move], row[move + 1], done, moves.ticksOf(move));
            }
            return told + moves.missedBy(move, cord);
        }
    }
}
