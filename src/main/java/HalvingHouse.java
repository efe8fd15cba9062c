import java.util.NoSuchElementException;

/**
 * Houses of whole numbers that are kept by the upper and lower halves of their bits, again and again.
 * The words in capitals (NUMBER, CHANGE, THIEF, ..) are those of the document.
 */
public final class HalvingHouse {
    public static final int NONE = -1;

    private static final int HOUSES = 4;
    private static final int MOST_NUMBERS = 2000;
    private static final int MOST_CHANGES = 1000;
    private static final int MOST_BYTES = 500;
    private static final int MOST_THIEVES = 4;
    private static final int MOST_IMAGES = 3;
    private static final int MOST_SEEDS = 20;

    private static final int PUT = 0;
    private static final int DROP = 1;
    private static final int HAS = 2;
    private static final int NEXT = 3;
    private static final int BEFORE = 4;
    private static final int CALLS = 5;

    private static final int JOIN = 0;
    private static final int MEET = 1;
    private static final int PART = 2;

    private static final int TOO_MANY_NUMBERS = -1;
    private static final int TOO_MANY_CHANGES = -2;

    private static final int NO_SUCH_HOUSE = 0;
    private static final int NO_SUCH_THIEF = 1;
    private static final int NO_SUCH_ARGUMENT = 2;
    private static final int REASONS = 3;

    private final Tape tape = new Tape();
    private final Shape shape = new Shape();
    private final ShapeText shapeText = new ShapeText();
    private final ThiefText thiefText = new ThiefText();
    private final Thief[] thieves = new Thief[MOST_THIEVES + 1];
    private int thiefCount;
    private final House[] houses = new House[HOUSES];
    private final Numbers past = new Numbers(MOST_NUMBERS);
    private final Robbery robbery = new Robbery(shape);
    private final Worst worstSets = new Worst(shape);
    private final BestRow bestRow = new BestRow(shape);
    private final int[][] images = new int[MOST_IMAGES][HOUSES];
    private int imageCount;
    private final int[] refused = new int[REASONS];

    public HalvingHouse() {
        for (int i = 0; i < thieves.length; i++) {
            thieves[i] = new Thief();
        }
        for (int i = 0; i < HOUSES; i++) {
            houses[i] = new House(shape);
        }
    }

    public int feed(int a, int b, int c, int d, int e) {
        if (!tape.hasPlace()) {
            return NONE;
        }
        tape.take(a);
        tape.take(b);
        tape.take(c);
        tape.take(d);
        tape.take(e);
        return tape.many;
    }

    public int shape(int n) throws IllegalArgumentException {
        need(n >= 0 && n <= tape.many);
        tape.open(n);
        shapeText.read(tape);
        if (!tape.isSound()) {
            return tape.reason - 10;
        }
        shape.take(shapeText);
        for (int i = 0; i < HOUSES; i++) {
            houses[i].clear();
        }
        imageCount = 0;
        robbery.forget();
        worstSets.forget();
        bestRow.forget();
        return shape.wide;
    }

    public int thief(int n) throws IllegalArgumentException {
        need(n >= 0 && n <= tape.many);
        tape.open(n);
        thiefText.read(tape, thieves[thiefCount]);
        if (!tape.isSound()) {
            return tape.reason - 10;
        }
        if (thiefCount >= MOST_THIEVES) {
            return -1;
        }
        thiefCount++;
        return thiefCount - 1;
    }

    public int fault() {
        return tape.isSound() ? NONE : tape.faultPlace;
    }

    public int told(int what) throws IllegalArgumentException {
        need(what >= 0 && what <= 3);
        if (what == 0) {
            return shape.wide;
        }
        if (what == 1) {
            return shape.upperMore ? 1 : 0;
        }
        return what == 2 ? shape.ends : thiefCount;
    }

    public int put(int house, int x) throws IndexOutOfBoundsException, IllegalArgumentException {
        needHouse(house);
        needNumber(x);
        robbery.forget();
        return houses[house].change(PUT, x);
    }

    public int drop(int house, int x) throws IndexOutOfBoundsException, IllegalArgumentException {
        needHouse(house);
        needNumber(x);
        robbery.forget();
        return houses[house].change(DROP, x);
    }

    public boolean has(int house, int x) throws IndexOutOfBoundsException, IllegalArgumentException {
        needHouse(house);
        needNumber(x);
        return houses[house].numbers.holds(x);
    }

    public int of(int house, int what) throws IndexOutOfBoundsException, IllegalArgumentException {
        needHouse(house);
        need(what >= 0 && what <= 3);
        return what == 3 ? houses[house].changes : houses[house].numbers.tell(what);
    }

    public int next(int house, int x) throws IndexOutOfBoundsException, IllegalArgumentException {
        needHouse(house);
        need(mayAsk(NEXT, x));
        return houses[house].numbers.above(x);
    }

    public int before(int house, int x) throws IndexOutOfBoundsException, IllegalArgumentException {
        needHouse(house);
        need(mayAsk(BEFORE, x));
        return houses[house].numbers.below(x);
    }

    public int kth(int house, int k) throws IndexOutOfBoundsException {
        needHouse(house);
        return houses[house].numbers.at(k);
    }

    public int between(int house, int a, int b) throws IndexOutOfBoundsException, IllegalArgumentException {
        needHouse(house);
        need(isNumber(a) && isNumber(b));
        Numbers numbers = houses[house].numbers;
        return a > b ? 0 : numbers.firstFrom(b + 1) - numbers.firstFrom(a);
    }

    public int touches(int house, int call, int x, int kind)
            throws IndexOutOfBoundsException, IllegalArgumentException {
        needHouse(house);
        need(isCall(call) && mayAsk(call, x) && isKind(kind));
        if (kind == 0) {
            return houses[house].halves.touchesOf(call, x);
        }
        Numbers numbers = houses[house].numbers;
        return kind == 1 ? numbers.touchesInWords(call, x, shape.wide) : numbers.touchesInRow(call, x);
    }

    public int size(int house, int kind) throws IndexOutOfBoundsException, IllegalArgumentException {
        needHouse(house);
        need(isKind(kind));
        if (kind == 0) {
            return houses[house].halves.allCells();
        }
        return kind == 1 ? Numbers.wordOf(shape.greatest()) + 1 : houses[house].numbers.many;
    }

    public int bound(int call) throws IllegalArgumentException {
        need(isCall(call));
        return shape.boundOf(call);
    }

    public int worst(int call, int n, int what) throws IllegalArgumentException {
        need(mayGoThroughAll(call, n) && what >= 0 && what <= 2);
        worstSets.learn(call, n);
        if (what == 0) {
            return worstSets.most[call][n];
        }
        return what == 1 ? Long.bitCount(worstSets.sets[call][n]) : worstSets.xs[call][n];
    }

    public int bad(int call, int n, int k) throws IllegalArgumentException {
        need(mayGoThroughAll(call, n));
        worstSets.learn(call, n);
        return worstSets.member(call, n, k);
    }

    public int was(int house, int t, int what) throws IndexOutOfBoundsException, IllegalArgumentException {
        needHouse(house);
        need(t >= 0 && t <= houses[house].changes && what >= 0 && what <= 2);
        houses[house].fillPast(past, t);
        return past.tell(what);
    }

    public int asked(int house, int t, int call, int x)
            throws IndexOutOfBoundsException, IllegalArgumentException {
        needHouse(house);
        need(t >= 0 && t <= houses[house].changes && isCall(call) && call >= HAS && mayAsk(call, x));
        houses[house].fillPast(past, t);
        return past.answer(call, x);
    }

    public int since(int house, int x, int what) throws IndexOutOfBoundsException, IllegalArgumentException {
        needHouse(house);
        need(isNumber(x) && (what == 0 || what == 1));
        return houses[house].lastChange(what == 0 ? PUT : DROP, x);
    }

    public int room(int house, int what) throws IndexOutOfBoundsException, IllegalArgumentException {
        needHouse(house);
        need(what == 0 || what == 1);
        return what == 0 ? houses[house].copying() : houses[house].changes;
    }

    public int joins(int a, int b, int how) throws IndexOutOfBoundsException, IllegalArgumentException {
        needHouse(a);
        needHouse(b);
        need(a != b && how >= JOIN && how <= PART);
        House changed = houses[a];
        Numbers other = houses[b].numbers;
        int common = changed.numbers.commonFrom(0, other);
        int fresh = how == JOIN ? other.many - common : 0;
        int gone = how == MEET ? changed.numbers.many - common : how == PART ? common : 0;
        int refusal = changed.refusal(fresh, gone);
        if (refusal < 0) {
            return refusal;
        }
        robbery.forget();
        if (how == MEET) {
            return changed.dropAllBut(other);
        }
        return changed.makeAll(how == JOIN ? PUT : DROP, other);
    }

    public int runs(int a, int b) throws IndexOutOfBoundsException {
        needHouse(a);
        needHouse(b);
        return houses[a].numbers.runsWith(houses[b].numbers);
    }

    public int steals(int thief, int house, int seed, int what)
            throws IndexOutOfBoundsException, NoSuchElementException, IllegalArgumentException {
        needHouse(house);
        needThief(thief);
        need(what >= 0 && what <= 6);
        robbery.go(thieves[thief], houses[house].numbers, seed);
        return robbery.tell(what);
    }

    public int reached(int call) throws IllegalArgumentException {
        need(mayGoThroughAll(call, 0));
        int bound = shape.boundOf(call);
        for (int n = 0; n <= shape.mostInSets(); n++) {
            worstSets.learn(call, n);
            if (worstSets.most[call][n] == bound) {
                return n;
            }
        }
        return NONE;
    }

    public int row(int n) throws IllegalArgumentException {
        need(shape.isSmall() && n >= 1 && n <= shape.mostInRows());
        return bestRow.learn(n);
    }

    public int rowCall(int n, int k) throws IllegalArgumentException {
        need(shape.isSmall() && n >= 1 && n <= shape.mostInRows());
        bestRow.learn(n);
        return bestRow.callAt(n, k);
    }

    public int split(int a, int b, int x) throws IndexOutOfBoundsException, IllegalArgumentException {
        needHouse(a);
        needHouse(b);
        need(a != b && isNumber(x));
        House left = houses[a];
        House right = houses[b];
        int cut = left.numbers.firstFrom(x);
        int moving = left.numbers.many - cut;
        int refusal = right.refusal(moving - left.numbers.commonFrom(cut, right.numbers), 0);
        if (refusal == 0) {
            refusal = left.refusal(0, moving);
        }
        if (refusal < 0) {
            return refusal;
        }
        robbery.forget();
        int sum = 0;
        for (int i = 0; i < moving; i++) {
            int number = left.numbers.at(cut);
            sum += left.make(DROP, number) + right.make(PUT, number);
        }
        return sum;
    }

    public int gap(int house, int what) throws IndexOutOfBoundsException, IllegalArgumentException {
        needHouse(house);
        need(what == 0 || what == 1);
        Numbers numbers = houses[house].numbers;
        int place = numbers.widestGap();
        if (place == NONE) {
            return NONE;
        }
        return what == 0 ? numbers.at(place + 1) - numbers.at(place) : numbers.at(place);
    }

    public int seeds(int thief, int house, int s, int m, int what)
            throws IndexOutOfBoundsException, NoSuchElementException, IllegalArgumentException {
        needHouse(house);
        needThief(thief);
        need(m >= 1 && m <= MOST_SEEDS && (what == 0 || what == 1));
        int most = NONE;
        int best = 0;
        // All seeds are alike to a THIEF that draws nothing.
        int tries = thieves[thief].draws ? m : 1;
        for (int i = 0; i < tries; i++) {
            robbery.go(thieves[thief], houses[house].numbers, s + i);
            if (robbery.most > most) {
                most = robbery.most;
                best = i;
            }
        }
        return what == 0 ? best : most;
    }

    public int image() {
        if (imageCount >= MOST_IMAGES) {
            return -1;
        }
        for (int i = 0; i < HOUSES; i++) {
            images[imageCount][i] = houses[i].changes;
        }
        imageCount++;
        return imageCount;
    }

    public int restore() {
        if (imageCount <= 0) {
            return -1;
        }
        imageCount--;
        for (int i = 0; i < HOUSES; i++) {
            houses[i].goBack(images[imageCount][i]);
        }
        robbery.forget();
        return imageCount;
    }

    public int status(int what) {
        return what < 0 || what >= REASONS ? NONE : refused[what];
    }

    public int count(int what) {
        if (what == 0) {
            return imageCount;
        }
        if (what == 1) {
            return tape.many;
        }
        if (what != 2) {
            return NONE;
        }
        int sum = 0;
        for (int i = 0; i < HOUSES; i++) {
            sum += houses[i].numbers.many;
        }
        return sum;
    }

    private void need(boolean allowed) {
        if (!allowed) {
            refused[NO_SUCH_ARGUMENT]++;
            throw new IllegalArgumentException();
        }
    }

    private void needHouse(int house) {
        if (house < 0 || house >= HOUSES) {
            refused[NO_SUCH_HOUSE]++;
            throw new IndexOutOfBoundsException();
        }
    }

    private void needThief(int thief) {
        if (thief < 0 || thief >= thiefCount) {
            refused[NO_SUCH_THIEF]++;
            throw new NoSuchElementException();
        }
    }

    private void needNumber(int x) {
        need(isNumber(x));
    }

    private boolean isNumber(int x) {
        return x >= 0 && x <= shape.greatest();
    }

    private static boolean isCall(int call) {
        return call >= 0 && call < CALLS;
    }

    private static boolean isKind(int kind) {
        return kind >= 0 && kind <= 2;
    }

    /** next may be asked from one below the NUMBERS on, before from one above them. */
    private boolean mayAsk(int call, int x) {
        return isNumber(x) || call == NEXT && x == -1 || call == BEFORE && x == shape.greatest() + 1;
    }

    private boolean mayGoThroughAll(int call, int n) {
        return isCall(call) && shape.isSmall() && n >= 0 && n <= shape.mostInSets();
    }

    /** The bytes that were fed, and the text that is read from them, token by token. */
    private static final class Tape {
        private static final int END = -1;
        private static final int FEED = 20;

        private final int[] bytes = new int[MOST_BYTES];
        private int many;
        private int length;
        private int place;
        private int start;
        private int reason;
        private int faultPlace;

        boolean hasPlace() {
            return many + FEED <= MOST_BYTES;
        }

        void take(int four) {
            for (int shift = 24; shift >= 0 && many < MOST_BYTES; shift -= 8) {
                bytes[many] = four >> shift & 255;
                many++;
            }
        }

        /** The bytes stay readable, though the TAPE is empty from here on. */
        void open(int n) {
            many = 0;
            length = n;
            place = 0;
            start = 0;
            reason = 0;
        }

        boolean isSound() {
            return reason == 0;
        }

        /** Only the first FAULT counts: what is read behind it may be anything. */
        void refuse(int why) {
            if (reason == 0) {
                reason = why;
                faultPlace = start;
            }
        }

        /** The first byte of the next token, which starts here for refuse(). */
        int ahead() {
            while (place < length && bytes[place] == ' ') {
                place++;
            }
            start = place;
            return place < length ? bytes[place] : END;
        }

        boolean takeSign(int sign) {
            boolean there = ahead() == sign;
            if (there) {
                place++;
            }
            return there;
        }

        void needSign(int sign) {
            if (ahead() == sign) {
                place++;
            } else {
                refuse(1);
            }
        }

        void readWord() {
            ahead();
            while (place < length && bytes[place] >= 'a' && bytes[place] <= 'z') {
                place++;
            }
        }

        boolean wordIs(String word) {
            if (place - start != word.length()) {
                return false;
            }
            for (int i = 0; i < word.length(); i++) {
                if (bytes[start + i] != word.charAt(i)) {
                    return false;
                }
            }
            return true;
        }

        int readNumber(int least, int most) {
            ahead();
            int value = 0;
            while (place < length && bytes[place] >= '0' && bytes[place] <= '9') {
                // Cut above all limits, so that long rows of digits do not wrap.
                value = Math.min(value * 10 + bytes[place] - '0', 1000000);
                place++;
            }
            if (place == start) {
                refuse(1);
            } else if (value < least || value > most) {
                refuse(2);
            }
            return value;
        }
    }

    /** How wide NUMBERS are and how their bits are parted. */
    private static final class Shape {
        private static final int ALL = 1 << 20;

        private int wide = ShapeText.WIDE;
        private boolean upperMore = true;
        private int ends = ShapeText.ENDS;

        void take(ShapeText text) {
            wide = text.wide;
            upperMore = text.upperMore;
            ends = text.ends;
        }

        int greatest() {
            return (1 << wide) - 1;
        }

        boolean isSmall() {
            return wide <= 6;
        }

        int mostInSets() {
            return wide <= 4 ? 16 : 3;
        }

        int mostInRows() {
            return wide <= 4 ? 6 : 2;
        }

        int lowerBits(int bits) {
            return upperMore ? bits / 2 : (bits + 1) / 2;
        }

        int boundOf(int call) {
            return mostTouches(call, wide, ALL);
        }

        /** No HOUSE of these bits with so many NUMBERS or fewer takes more; with all of them it is the BOUND. */
        int mostTouches(int call, int bits, int numbers) {
            int inside = numbers - 2;
            if (bits <= ends || inside < 0 || inside == 0 && call != PUT) {
                return 1;
            }
            int lower = lowerBits(bits);
            int inRoom = inside == 0 ? 0 : mostTouches(call, lower, inside);
            if (call == HAS) {
                return 1 + inRoom;
            }
            int inList = mostTouches(call, bits - lower, inside);
            if (call == PUT || call == DROP || inside > 1) {
                inList++;
            }
            return (call == PUT ? 1 : call == DROP ? 3 : 2) + Math.max(inRoom, inList);
        }
    }

    /** Reads a SHAPE's text; what it does not tell is as without a text. */
    private static final class ShapeText {
        private static final int WIDE = 8;
        private static final int ENDS = 1;
        private static final int CLAUSES = 3;

        private int wide;
        private boolean upperMore;
        private int ends;
        private final boolean[] told = new boolean[CLAUSES];

        void read(Tape tape) {
            wide = WIDE;
            upperMore = true;
            ends = ENDS;
            for (int i = 0; i < CLAUSES; i++) {
                told[i] = false;
            }
            for (int i = 0; i < MOST_BYTES && tape.isSound() && tape.ahead() != Tape.END; i++) {
                readClause(tape);
            }
        }

        private void readClause(Tape tape) {
            tape.readWord();
            int clause = tape.wordIs("wide") ? 0 : tape.wordIs("upper") ? 1 : tape.wordIs("ends") ? 2 : NONE;
            if (clause == NONE) {
                tape.refuse(1);
            } else if (told[clause]) {
                tape.refuse(4);
            } else {
                told[clause] = true;
                readValue(tape, clause);
                tape.needSign(';');
            }
        }

        private void readValue(Tape tape, int clause) {
            if (clause == 0) {
                wide = tape.readNumber(2, 16);
            } else if (clause == 2) {
                ends = tape.readNumber(1, 5);
            } else {
                tape.readWord();
                upperMore = tape.wordIs("more");
                if (!upperMore && !tape.wordIs("less")) {
                    tape.refuse(1);
                }
            }
        }
    }

    /** A THIEF as a row of small steps, those of its reckonings behind what they take. */
    private static final class Thief {
        private static final int NUMBER = 0;
        private static final int ROUND = 1;
        private static final int LAST = 2;
        private static final int MANY = 3;
        private static final int DRAW = 4;
        private static final int PLUS = 5;
        private static final int LESS = 6;
        private static final int TIMES = 7;
        private static final int REST = 8;
        private static final int CALL = 9;
        private static final int LOOP = 10;
        private static final int AGAIN = 11;

        private static final int MOST_LOOPS = 3;
        private static final int SLOTS = 4;

        private final int[] steps = new int[MOST_BYTES];
        private final int[] values = new int[MOST_BYTES];
        private int length;
        private boolean draws;

        void clear() {
            length = 0;
            draws = false;
        }

        /** Each step comes from at least one byte of its own, so all have place. */
        void add(int step, int value) {
            if (length < MOST_BYTES) {
                steps[length] = step;
                values[length] = value;
                length++;
            }
            draws = draws || step == DRAW;
        }
    }

    /** Reads a THIEF's text into its small steps. */
    private static final class ThiefText {
        private static final int MOST_STEPS = 60;
        private static final int MOST_OPEN = 6;
        private static final int MOST_VALUE = 99999;
        private static final int MOST_ROUNDS = 99;

        private Tape tape;
        private Thief thief;
        private int stepCount;
        private int callCount;
        private int depth;
        private final int[] loopStart = new int[Thief.MOST_LOOPS];
        private final int[] callsAhead = new int[Thief.MOST_LOOPS];

        void read(Tape text, Thief into) {
            tape = text;
            thief = into;
            thief.clear();
            stepCount = 0;
            callCount = 0;
            depth = 0;
            for (int i = 0; i < MOST_BYTES && tape.isSound() && !isOver(); i++) {
                readStep();
            }
            if (stepCount == 0) {
                tape.refuse(1);
            }
        }

        private boolean isOver() {
            return depth == 0 && tape.ahead() == Tape.END;
        }

        private void readStep() {
            if (depth > 0 && tape.takeSign(']')) {
                closeLoop();
                return;
            }
            tape.readWord();
            int call = callOfWord();
            boolean loop = tape.wordIs("times");
            if (call == NONE && !loop) {
                tape.refuse(1);
            } else if (stepCount >= MOST_STEPS || loop && depth >= Thief.MOST_LOOPS) {
                tape.refuse(3);
            } else if (loop) {
                stepCount++;
                openLoop();
            } else {
                stepCount++;
                callCount++;
                readSum(0);
                tape.needSign(';');
                thief.add(Thief.CALL, call);
            }
        }

        private int callOfWord() {
            if (tape.wordIs("put")) {
                return PUT;
            }
            if (tape.wordIs("drop")) {
                return DROP;
            }
            if (tape.wordIs("has")) {
                return HAS;
            }
            if (tape.wordIs("next")) {
                return NEXT;
            }
            return tape.wordIs("before") ? BEFORE : NONE;
        }

        private void openLoop() {
            int rounds = tape.readNumber(1, MOST_ROUNDS);
            tape.needSign('[');
            loopStart[depth] = thief.length;
            callsAhead[depth] = callCount;
            thief.add(Thief.LOOP, rounds * Thief.SLOTS + depth);
            depth++;
        }

        /** A loop without a call does nothing: it is left out, so that every round of a loop calls. */
        private void closeLoop() {
            depth--;
            if (callsAhead[depth] == callCount) {
                thief.length = loopStart[depth];
            } else {
                thief.add(Thief.AGAIN, loopStart[depth]);
            }
        }

        private void readSum(int open) {
            readProduct(open);
            for (int i = 0; i < MOST_BYTES && tape.isSound(); i++) {
                int sign = tape.ahead();
                if (sign != '+' && sign != '-') {
                    return;
                }
                tape.needSign(sign);
                readProduct(open);
                thief.add(sign == '+' ? Thief.PLUS : Thief.LESS, 0);
            }
        }

        private void readProduct(int open) {
            readUnit(open);
            for (int i = 0; i < MOST_BYTES && tape.isSound(); i++) {
                int sign = tape.ahead();
                if (sign != '*' && sign != '%') {
                    return;
                }
                tape.needSign(sign);
                readUnit(open);
                thief.add(sign == '*' ? Thief.TIMES : Thief.REST, 0);
            }
        }

        private void readUnit(int open) {
            int first = tape.ahead();
            if (first == '(') {
                if (open >= MOST_OPEN) {
                    tape.refuse(3);
                    return;
                }
                tape.needSign('(');
                readSum(open + 1);
                tape.needSign(')');
            } else if (first >= '0' && first <= '9') {
                thief.add(Thief.NUMBER, tape.readNumber(0, MOST_VALUE));
            } else {
                tape.readWord();
                addName();
            }
        }

        private void addName() {
            if (tape.wordIs("i") || tape.wordIs("o")) {
                int loop = depth - (tape.wordIs("i") ? 1 : 2);
                thief.add(loop < 0 ? Thief.NUMBER : Thief.ROUND, Math.max(loop, 0));
            } else if (tape.wordIs("last")) {
                thief.add(Thief.LAST, 0);
            } else if (tape.wordIs("many")) {
                thief.add(Thief.MANY, 0);
            } else if (tape.wordIs("draw")) {
                thief.add(Thief.DRAW, 0);
            } else {
                tape.refuse(1);
            }
        }
    }

    /** NUMBERS in order, each once. */
    private static final class Numbers {
        private static final int WORD_BITS = 5;

        private final int[] sorted;
        private int many;

        Numbers(int most) {
            sorted = new int[most];
        }

        void clear() {
            many = 0;
        }

        void copyFrom(Numbers other) {
            many = Math.min(other.many, sorted.length);
            System.arraycopy(other.sorted, 0, sorted, 0, many);
        }

        /** The place of the first that is not below x. */
        int firstFrom(int x) {
            int a = 0;
            int b = many;
            while (a < b) {
                int middle = (a + b) / 2;
                if (sorted[middle] < x) {
                    a = middle + 1;
                } else {
                    b = middle;
                }
            }
            return a;
        }

        int at(int k) {
            return k < 0 || k >= many ? NONE : sorted[k];
        }

        boolean holds(int x) {
            int place = firstFrom(x);
            return place < many && sorted[place] == x;
        }

        int above(int x) {
            return at(firstFrom(x + 1));
        }

        int below(int x) {
            return at(firstFrom(x) - 1);
        }

        /** 0 how many, 1 the least, 2 the greatest. */
        int tell(int what) {
            return what == 0 ? many : what == 1 ? at(0) : at(many - 1);
        }

        boolean add(int x) {
            int place = firstFrom(x);
            if (place < many && sorted[place] == x || many >= sorted.length) {
                return false;
            }
            System.arraycopy(sorted, place, sorted, place + 1, many - place);
            sorted[place] = x;
            many++;
            return true;
        }

        boolean remove(int x) {
            int place = firstFrom(x);
            if (place >= many || sorted[place] != x) {
                return false;
            }
            many--;
            System.arraycopy(sorted, place + 1, sorted, place, many - place);
            return true;
        }

        /** Does the call, and answers as a THIEF hears it. */
        int answer(int call, int x) {
            if (call == NEXT) {
                return above(x);
            }
            if (call == BEFORE) {
                return below(x);
            }
            boolean yes = call == PUT ? add(x) : call == DROP ? remove(x) : holds(x);
            return yes ? 1 : 0;
        }

        /** How many from a place on are in the other row, too. */
        int commonFrom(int place, Numbers other) {
            int common = 0;
            for (int i = place; i < many; i++) {
                if (other.holds(sorted[i])) {
                    common++;
                }
            }
            return common;
        }

        int runsWith(Numbers other) {
            int runs = 0;
            int side = 0;
            int i = 0;
            int j = 0;
            while (i < many || j < other.many) {
                int order = i >= many ? 1 : j >= other.many ? -1 : Integer.compare(sorted[i], other.sorted[j]);
                if (order != 0 && order != side) {
                    side = order;
                    runs++;
                }
                if (order <= 0) {
                    i++;
                }
                if (order >= 0) {
                    j++;
                }
            }
            return runs;
        }

        int widestGap() {
            int place = NONE;
            int widest = 0;
            for (int i = 0; i + 1 < many; i++) {
                int way = sorted[i + 1] - sorted[i];
                if (way > widest) {
                    widest = way;
                    place = i;
                }
            }
            return place;
        }

        static int wordOf(int x) {
            return x >> WORD_BITS;
        }

        int touchesInWords(int call, int x, int wide) {
            int greatest = (1 << wide) - 1;
            if (call == NEXT) {
                int found = above(x);
                return x >= greatest ? 0 : wordOf(found == NONE ? greatest : found) - wordOf(x + 1) + 1;
            }
            if (call == BEFORE) {
                int found = below(x);
                return x <= 0 ? 0 : wordOf(x - 1) - wordOf(found == NONE ? 0 : found) + 1;
            }
            return 1;
        }

        int touchesInRow(int call, int x) {
            int sought = call == NEXT ? x + 1 : x;
            int touched = 0;
            int a = 0;
            int b = many;
            while (a < b) {
                int middle = (a + b) / 2;
                touched++;
                if (sorted[middle] < sought) {
                    a = middle + 1;
                } else {
                    b = middle;
                }
            }
            boolean there = a < many && sorted[a] == x;
            if (call == BEFORE ? a > 0 : a < many) {
                touched++;
            }
            if (call == PUT && !there) {
                touched += many - a + 1;
            }
            if (call == DROP && there) {
                touched += many - a - 1;
            }
            return touched;
        }

        /** The first of all sets of so many NUMBERS, by bits. */
        void beFirstSet(int size) {
            many = Math.min(size, sorted.length);
            for (int i = 0; i < many; i++) {
                sorted[i] = i;
            }
        }

        /** The next set of as many NUMBERS below the limit, by bits; false behind the last one. */
        boolean beNextSet(int limit) {
            for (int i = 0; i < many; i++) {
                int wall = i + 1 < many ? sorted[i + 1] : limit;
                if (sorted[i] + 1 < wall) {
                    sorted[i]++;
                    for (int j = 0; j < i; j++) {
                        sorted[j] = j;
                    }
                    return true;
                }
            }
            return false;
        }
    }

    /**
     * NUMBERS as HALVES keep them. Nothing is built: a HOUSE is a stretch of the sorted row, whose NUMBERS are some
     * bits of those that stand there; a LIST's NUMBER stands there as often as its ROOM has NUMBERS.
     */
    private static final class Halves {
        private static final int MOST_LEVELS = 16;

        private final Shape shape;
        private final Numbers numbers;
        private final int[] sorted;
        private int from;
        private int to;
        private int shift;
        private int bits;
        private int lower;
        private int x;
        private int least;
        private int greatest;
        private int insideFrom;
        private int insideTo;
        private int roomFrom;
        private int roomTo;
        private boolean over;

        Halves(Shape shape, Numbers numbers) {
            this.shape = shape;
            this.numbers = numbers;
            this.sorted = numbers.sorted;
        }

        /** A call goes down one way: only drop has two, and then the ROOM's is always 1. */
        int touchesOf(int call, int number) {
            from = 0;
            to = numbers.many;
            shift = 0;
            bits = shape.wide;
            x = number;
            int sum = 0;
            over = false;
            for (int level = 0; level < MOST_LEVELS && !over; level++) {
                sum++;
                look();
                if (over) {
                    return sum;
                }
                switch (call) {
                    case PUT:
                        sum += goOnPutting();
                        break;
                    case DROP:
                        sum += goOnDropping();
                        break;
                    case NEXT:
                        sum += goOnUp();
                        break;
                    case BEFORE:
                        sum += goOnDown();
                        break;
                    default:
                        goOnAsking();
                }
            }
            return sum;
        }

        /** An END, an empty HOUSE and one NUMBER alone take 1, whatever is asked. */
        private void look() {
            over = bits <= shape.ends || from >= to;
            if (over) {
                return;
            }
            least = valueAt(from);
            greatest = valueAt(to - 1);
            over = least == greatest;
            if (!over) {
                lower = shape.lowerBits(bits);
                insideFrom = firstFrom(from + 1, to, least + 1);
                insideTo = firstFrom(insideFrom, to, greatest);
            }
        }

        private int valueAt(int place) {
            return sorted[place] >> shift & (1 << bits) - 1;
        }

        private int firstFrom(int a, int b, int value) {
            int mask = (1 << bits) - 1;
            while (a < b) {
                int middle = (a + b) / 2;
                if ((sorted[middle] >> shift & mask) < value) {
                    a = middle + 1;
                } else {
                    b = middle;
                }
            }
            return a;
        }

        /** Finds the ROOM of a NUMBER among those INSIDE: whether it has some. */
        private boolean findRoom(int y) {
            int first = y >> lower << lower;
            roomFrom = firstFrom(insideFrom, insideTo, first);
            roomTo = firstFrom(roomFrom, insideTo, first + (1 << lower));
            return roomFrom < roomTo;
        }

        private void enterRoom(int y) {
            from = roomFrom;
            to = roomTo;
            bits = lower;
            x = y & (1 << lower) - 1;
        }

        private void enterList(int y) {
            from = insideFrom;
            to = insideTo;
            shift += lower;
            bits -= lower;
            x = y >> lower;
        }

        private int goOnPutting() {
            if (x == least || x == greatest) {
                over = true;
                return 0;
            }
            int y = Math.min(Math.max(x, least), greatest);
            if (findRoom(y)) {
                enterRoom(y);
                return 0;
            }
            enterList(y);
            return 1;
        }

        private int goOnDropping() {
            boolean edge = x == least || x == greatest;
            if (x < least || x > greatest || edge && insideFrom >= insideTo) {
                over = true;
                return 0;
            }
            int more = edge ? 2 : 0;
            int y = !edge ? x : valueAt(x == least ? insideFrom : insideTo - 1);
            if (!findRoom(y)) {
                over = true;
                return more;
            }
            if (valueAt(roomFrom) == y && valueAt(roomTo - 1) == y) {
                enterList(y);
                return more + 1;
            }
            enterRoom(y);
            return more;
        }

        private void goOnAsking() {
            if (x <= least || x >= greatest || !findRoom(x)) {
                over = true;
            } else {
                enterRoom(x);
            }
        }

        private int goOnUp() {
            if (x < least || x >= greatest || insideFrom >= insideTo) {
                over = true;
                return 0;
            }
            int more = 0;
            if (findRoom(x)) {
                more = 1;
                if (x < valueAt(roomTo - 1)) {
                    enterRoom(x);
                    return more;
                }
            }
            if (valueAt(insideTo - 1) >> lower > x >> lower) {
                more++;
            }
            enterList(x);
            return more;
        }

        private int goOnDown() {
            if (x > greatest || x <= least || insideFrom >= insideTo) {
                over = true;
                return 0;
            }
            int more = 0;
            if (findRoom(x)) {
                more = 1;
                if (x > valueAt(roomFrom)) {
                    enterRoom(x);
                    return more;
                }
            }
            if (valueAt(insideFrom) >> lower < x >> lower) {
                more++;
            }
            enterList(x);
            return more;
        }

        int allCells() {
            return cellsOf(0, numbers.many, 0, shape.wide);
        }

        /** Each level has fewer bits than the one above it, down to an END. */
        private int cellsOf(int start, int end, int above, int wide) {
            if (start >= end || wide <= shape.ends) {
                return start >= end ? 0 : 1;
            }
            int mask = (1 << wide) - 1;
            int first = start;
            while (first < end && (sorted[first] >> above & mask) == (sorted[start] >> above & mask)) {
                first++;
            }
            int behind = end;
            while (behind > first && (sorted[behind - 1] >> above & mask) == (sorted[end - 1] >> above & mask)) {
                behind--;
            }
            int low = shape.lowerBits(wide);
            int sum = 2 + cellsOf(first, behind, above + low, wide - low);
            int room = first;
            for (int i = first; i < behind; i++) {
                boolean last = i + 1 >= behind || sorted[i] >> above + low != sorted[i + 1] >> above + low;
                if (last) {
                    sum += cellsOf(room, i + 1, above, low);
                    room = i + 1;
                }
            }
            return sum;
        }
    }

    /** A house with all its CHANGES. As they are only ever added, an IMAGE is how many there were. */
    private static final class House {
        private final Numbers numbers = new Numbers(MOST_NUMBERS);
        private final Halves halves;
        private final int[] changed = new int[MOST_CHANGES];
        private final int[] cost = new int[MOST_CHANGES];
        private int changes;

        House(Shape shape) {
            halves = new Halves(shape, numbers);
        }

        void clear() {
            numbers.clear();
            changes = 0;
        }

        /** What stands against so many new NUMBERS and so many gone ones; 0: nothing. */
        int refusal(int fresh, int gone) {
            if (numbers.many + fresh > MOST_NUMBERS) {
                return TOO_MANY_NUMBERS;
            }
            return changes + fresh + gone > MOST_CHANGES ? TOO_MANY_CHANGES : 0;
        }

        int change(int call, int number) {
            boolean putting = call == PUT;
            if (numbers.holds(number) == putting) {
                return 0;
            }
            int refusal = refusal(putting ? 1 : 0, putting ? 0 : 1);
            if (refusal < 0) {
                return refusal;
            }
            make(call, number);
            return 1;
        }

        /** Puts or drops, and answers the TOUCHES; the caller has asked refusal() before. */
        int make(int call, int number) {
            int touched = halves.touchesOf(call, number);
            boolean done = call == PUT ? numbers.add(number) : numbers.remove(number);
            if (done && changes < MOST_CHANGES) {
                changed[changes] = number * 2 + call;
                cost[changes] = touched;
                changes++;
            }
            return touched;
        }

        int makeAll(int call, Numbers others) {
            int sum = 0;
            for (int i = 0; i < others.many; i++) {
                sum += make(call, others.at(i));
            }
            return sum;
        }

        int dropAllBut(Numbers kept) {
            int sum = 0;
            int place = 0;
            int all = numbers.many;
            for (int i = 0; i < all; i++) {
                int number = numbers.at(place);
                if (kept.holds(number)) {
                    place++;
                } else {
                    sum += make(DROP, number);
                }
            }
            return sum;
        }

        void goBack(int earlier) {
            while (changes > earlier) {
                changes--;
                replay(numbers, changes, true);
            }
        }

        void fillPast(Numbers past, int t) {
            past.clear();
            for (int i = 0; i < t; i++) {
                replay(past, i, false);
            }
        }

        private void replay(Numbers at, int change, boolean undo) {
            boolean wasPut = changed[change] % 2 == PUT;
            if (wasPut != undo) {
                at.add(changed[change] / 2);
            } else {
                at.remove(changed[change] / 2);
            }
        }

        int lastChange(int call, int number) {
            for (int i = changes - 1; i >= 0; i--) {
                if (changed[i] == number * 2 + call) {
                    return i + 1;
                }
            }
            return NONE;
        }

        int copying() {
            int sum = 0;
            for (int i = 0; i < changes; i++) {
                sum += cost[i];
            }
            return sum;
        }
    }

    /** A THIEF going at a copy of a house. */
    private static final class Robbery {
        private static final int MOST_CALLS = 2000;
        private static final int MOST_TURNS = 4000000;
        private static final int MOST_HELD = 32;

        private final Shape shape;
        private final Numbers copy = new Numbers(MOST_NUMBERS);
        private final Halves halves;
        private final int[] rounds = new int[Thief.SLOTS];
        private final int[] held = new int[MOST_HELD];
        private int heldCount;
        private int place;
        private int seed;
        private int last;
        private boolean over;
        private int calls;
        private int most;
        private int first;
        private int byHalves;
        private int byWords;
        private int byRow;
        private boolean known;
        private Thief knownThief;
        private Numbers knownHouse;
        private int knownSeed;

        Robbery(Shape shape) {
            this.shape = shape;
            halves = new Halves(shape, copy);
        }

        /** To be called whenever a house or the SHAPE may have changed. */
        void forget() {
            known = false;
        }

        void go(Thief thief, Numbers house, int firstSeed) {
            if (known && thief == knownThief && house == knownHouse && firstSeed == knownSeed) {
                return;
            }
            begin(house, firstSeed);
            for (int turn = 0; turn < MOST_TURNS && place < thief.length && !over; turn++) {
                step(thief);
            }
            known = true;
            knownThief = thief;
            knownHouse = house;
            knownSeed = firstSeed;
        }

        int tell(int what) {
            switch (what) {
                case 0:
                    return calls;
                case 1:
                    return byHalves;
                case 2:
                    return most;
                case 3:
                    return first;
                case 4:
                    return byWords;
                case 5:
                    return byRow;
                default:
                    return copy.many;
            }
        }

        private void begin(Numbers house, int firstSeed) {
            copy.copyFrom(house);
            heldCount = 0;
            place = 0;
            seed = firstSeed;
            last = 0;
            over = false;
            calls = 0;
            most = 0;
            first = NONE;
            byHalves = 0;
            byWords = 0;
            byRow = 0;
        }

        private void step(Thief thief) {
            int value = thief.values[place];
            int step = thief.steps[place];
            place++;
            switch (step) {
                case Thief.NUMBER:
                    hold(value);
                    break;
                case Thief.ROUND:
                    hold(rounds[value]);
                    break;
                case Thief.LAST:
                    hold(last);
                    break;
                case Thief.MANY:
                    hold(copy.many);
                    break;
                case Thief.DRAW:
                    hold(nextDraw());
                    break;
                case Thief.CALL:
                    makeCall(value, yieldHeld() & shape.greatest());
                    break;
                case Thief.LOOP:
                    rounds[value % Thief.SLOTS] = 0;
                    break;
                case Thief.AGAIN:
                    goRound(thief, value);
                    break;
                default:
                    reckon(step);
            }
        }

        private void hold(int value) {
            if (heldCount < MOST_HELD) {
                held[heldCount] = value;
                heldCount++;
            }
        }

        private int yieldHeld() {
            if (heldCount <= 0) {
                return 0;
            }
            heldCount--;
            return held[heldCount];
        }

        private void reckon(int step) {
            int right = yieldHeld();
            int left = yieldHeld();
            if (step == Thief.PLUS) {
                hold(left + right);
            } else if (step == Thief.LESS) {
                hold(left - right);
            } else if (step == Thief.TIMES) {
                hold(left * right);
            } else {
                hold(right == 0 ? 0 : left % right);
            }
        }

        private int nextDraw() {
            seed = seed * 1103515245 + 12345;
            return (seed >>> 8 & 65535) % (shape.greatest() + 1);
        }

        private void goRound(Thief thief, int loop) {
            int slot = thief.values[loop] % Thief.SLOTS;
            rounds[slot]++;
            if (rounds[slot] < thief.values[loop] / Thief.SLOTS) {
                place = loop + 1;
            }
        }

        private void makeCall(int call, int x) {
            if (call == PUT && copy.many >= MOST_NUMBERS) {
                over = true;
                return;
            }
            int touched = halves.touchesOf(call, x);
            if (touched > most) {
                most = touched;
                first = calls;
            }
            byHalves += touched;
            byWords += copy.touchesInWords(call, x, shape.wide);
            byRow += copy.touchesInRow(call, x);
            last = copy.answer(call, x);
            calls++;
            over = calls >= MOST_CALLS;
        }
    }

    /** The WORST of each call for each n, found by going through all sets, and kept until the SHAPE changes. */
    private static final class Worst {
        private static final int MOST_IN_SET = 16;
        private static final int MOST_SETS = 1000000;

        private final Shape shape;
        private final Numbers set = new Numbers(MOST_IN_SET);
        private final Halves halves;
        private final int[] known = new int[CALLS];
        private final int[][] most = new int[CALLS][MOST_IN_SET + 1];
        private final int[][] xs = new int[CALLS][MOST_IN_SET + 1];
        private final long[][] sets = new long[CALLS][MOST_IN_SET + 1];

        Worst(Shape shape) {
            this.shape = shape;
            halves = new Halves(shape, set);
        }

        void forget() {
            for (int i = 0; i < CALLS; i++) {
                known[i] = 0;
            }
        }

        void learn(int call, int n) {
            for (int size = known[call]; size <= n; size++) {
                most[call][size] = size == 0 ? 0 : most[call][size - 1];
                xs[call][size] = size == 0 ? 0 : xs[call][size - 1];
                sets[call][size] = size == 0 ? 0 : sets[call][size - 1];
                goThroughAll(call, size);
                known[call] = size + 1;
            }
        }

        int member(int call, int n, int k) {
            int left = k;
            for (int x = 0; x < 64 && left >= 0; x++) {
                if ((sets[call][n] >>> x & 1) != 0) {
                    if (left == 0) {
                        return x;
                    }
                    left--;
                }
            }
            return NONE;
        }

        /** Only more TOUCHES than with fewer NUMBERS count, and none can be more than the limit. */
        private void goThroughAll(int call, int size) {
            int all = shape.greatest() + 1;
            int limit = shape.mostTouches(call, shape.wide, size);
            boolean going = size <= all;
            set.beFirstSet(size);
            for (int i = 0; i < MOST_SETS && going && most[call][size] < limit; i++) {
                tryAll(call, size);
                going = set.beNextSet(all);
            }
        }

        private void tryAll(int call, int size) {
            for (int x = 0; x <= shape.greatest(); x++) {
                int touched = halves.touchesOf(call, x);
                if (touched > most[call][size]) {
                    most[call][size] = touched;
                    xs[call][size] = x;
                    sets[call][size] = bitsOfSet();
                }
            }
        }

        private long bitsOfSet() {
            long bits = 0;
            for (int i = 0; i < set.many; i++) {
                bits |= 1L << set.at(i);
            }
            return bits;
        }
    }

    /** The ROWS, found by going through calls in their order for a sum that is set, from the greatest one on. */
    private static final class BestRow {
        private static final int MOST_CALLS = 6;
        private static final int WHICH = 100;

        private final Shape shape;
        private final Numbers set = new Numbers(MOST_CALLS);
        private final Halves halves;
        /** For so many calls left, and so many NUMBERS: what these calls can't exceed together. */
        private final int[][] limits = new int[MOST_CALLS + 1][MOST_CALLS + 1];
        private boolean limited;
        private final int[] found = new int[MOST_CALLS + 1];
        private int foundLength;
        private int foundSum;

        BestRow(Shape shape) {
            this.shape = shape;
            halves = new Halves(shape, set);
        }

        void forget() {
            limited = false;
            foundLength = 0;
        }

        /** Finds the ROW of n calls, if it is not the latest one that was found. */
        int learn(int n) {
            if (!limited) {
                setLimits();
            }
            if (foundLength != n) {
                set.clear();
                int sum = limits[n][0];
                while (sum > 0 && !find(n, sum)) {
                    sum--;
                }
                foundLength = n;
                foundSum = sum;
            }
            return foundSum;
        }

        int callAt(int n, int k) {
            return k < 0 || k >= n ? NONE : found[n - k];
        }

        private void setLimits() {
            for (int left = 1; left <= MOST_CALLS; left++) {
                for (int size = 0; size <= MOST_CALLS - left; size++) {
                    limits[left][size] = 0;
                    for (int call = 0; call < CALLS; call++) {
                        limits[left][size] = Math.max(limits[left][size], limitOf(call, left, size));
                    }
                }
            }
            limited = true;
        }

        /** What a call at a set of this size and the calls behind it can't exceed together. */
        private int limitOf(int call, int left, int size) {
            int touched = shape.mostTouches(call, shape.wide, size);
            int staying = limits[left - 1][size];
            if (call == PUT) {
                return touched + limits[left - 1][size + 1];
            }
            if (call == DROP) {
                // A drop that changes nothing goes the way of has.
                int idle = shape.mostTouches(HAS, shape.wide, size) + staying;
                return Math.max(idle, touched + limits[left - 1][Math.max(size - 1, 0)]);
            }
            return touched + staying;
        }

        /** Whether the calls left can take so much from the set on; then the first such row is noted. */
        private boolean find(int left, int need) {
            if (left <= 0 || need > limits[left][set.many]) {
                return left <= 0 && need <= 0;
            }
            for (int call = 0; call < CALLS; call++) {
                boolean open = limitOf(call, left, set.many) >= need;
                for (int x = 0; x <= shape.greatest() && open; x++) {
                    if (findBehind(call, x, left, need)) {
                        found[left] = call * WHICH + x;
                        return true;
                    }
                }
            }
            return false;
        }

        private boolean findBehind(int call, int x, int left, int need) {
            int touched = halves.touchesOf(call, x);
            boolean came = call == PUT && set.add(x);
            boolean went = call == DROP && set.remove(x);
            boolean yes = find(left - 1, need - touched);
            if (came) {
                set.remove(x);
            }
            if (went) {
                set.add(x);
            }
            return yes;
        }
    }
}
