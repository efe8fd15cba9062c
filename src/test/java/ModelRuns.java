import java.util.ArrayList;
import java.util.HashMap;
import java.util.List;
import java.util.Map;
import java.util.NoSuchElementException;
import java.util.Random;
import java.util.TreeMap;
import java.util.TreeSet;

/**
 * Long runs of random calls, each asked of the class and of a model that follows the document's words one by one
 * (sets as trees, HALVES built anew for each question, images as whole copies, texts read into trees).
 */
public final class ModelRuns {
    private static final int RUNS = 1500;
    private static int wrong = 0;

    public static void main(String[] args) {
        for (int shape = 0; shape < 5 * 2 * 5; shape++) {
            smallShape(2 + shape / 10, shape / 5 % 2 == 0, 1 + shape % 5);
        }
        for (int run = 0; run < RUNS && wrong < 20; run++) {
            new Run(run).go();
        }
        System.out.println(wrong == 0 ? "model runs: all answers are as due" : "model runs: " + wrong + " wrong");
        System.exit(wrong == 0 ? 0 : 1);
    }

    /** All that is asked of small SHAPES alone, for all of them. */
    static void smallShape(int wide, boolean more, int ends) {
        String text = "wide " + wide + ";upper " + (more ? "more" : "less") + ";ends " + ends + ";";
        Run run = new Run(wide * 1000 + (more ? 100 : 0) + ends);
        for (int call = 0; call < 5; call++) {
            int which = call;
            run.fresh(text);
            run.same("reached(" + which + ")", () -> run.real.reached(which), () -> run.model.reached(which));
            for (int n = wide <= 4 ? 16 : 3; n >= 0; n--) {
                int most = n;
                for (int what = 0; what < 3; what++) {
                    int w = what;
                    run.same(text + " worst(" + which + "," + most + "," + w + ")",
                            () -> run.real.worst(which, most, w), () -> run.model.worst(which, most, w));
                }
                for (int k = -1; k <= n; k++) {
                    int at = k;
                    run.same(text + " bad(" + which + "," + most + "," + at + ")",
                            () -> run.real.bad(which, most, at), () -> run.model.bad(which, most, at));
                }
            }
        }
        run.fresh(text);
        for (int n = wide <= 4 ? 6 : 2; n >= 1; n--) {
            int most = n;
            run.same(text + " row(" + most + ")", () -> run.real.row(most), () -> run.model.row(most));
            for (int k = -1; k <= n; k++) {
                int at = k;
                run.same(text + " rowCall(" + most + "," + at + ")",
                        () -> run.real.rowCall(most, at), () -> run.model.rowCall(most, at));
            }
        }
    }

    interface Asking {
        long ask();
    }

    static String told(Asking asking) {
        try {
            return String.valueOf(asking.ask());
        } catch (IndexOutOfBoundsException | NoSuchElementException | IllegalArgumentException e) {
            return "throws." + e.getClass().getSimpleName();
        }
    }

    // ---------------------------------------------------------------- one run

    static final class Run {
        final int number;
        final Random random;
        HalvingHouse real = new HalvingHouse();
        Model model = new Model();
        final List<String> log = new ArrayList<>();
        int calls = 0;

        Run(int number) {
            this.number = number;
            this.random = new Random(number);
        }

        /** A new object of a SHAPE; the model keeps what it knows of the same SHAPE. */
        void fresh(String shape) {
            calls = 0;
            log.clear();
            Model old = model;
            real = new HalvingHouse();
            model = new Model();
            text(shape, true);
            model.rowKnown = old.rowKnown;
            model.worstKnown = old.worstKnown;
        }

        void same(String call, Asking a, Asking b) {
            if (calls++ >= 512) {
                return;
            }
            String got = told(a);
            String due = told(b);
            log.add(call + " " + got);
            if (!got.equals(due)) {
                wrong++;
                System.out.println("run " + number + ": " + call + " answered " + got + ", due is " + due);
                if (wrong < 3) {
                    System.out.println(log);
                }
            }
        }

        void go() {
            if (number % 5 == 0) {
                text("wide 12;", true);
            } else if (random.nextInt(5) > 0) {
                text(Texts.shape(random, random.nextInt(3) > 0), true);
            }
            int heavy = random.nextInt(4);
            // Some runs join and part so often that houses come to their 1,000 CHANGES.
            boolean busy = number % 5 == 0;
            while (calls < 512 && wrong < 20) {
                int dice = busy ? 8 + random.nextInt(60) : random.nextInt(100);
                if (dice < 2) {
                    text(Texts.mutated(random, Texts.shape(random, random.nextInt(3) > 0)), true);
                } else if (dice < 8) {
                    text(Texts.mutated(random, Texts.thief(random)), false);
                } else if (dice < 50) {
                    change();
                } else if (dice < 53 && heavy == 0) {
                    small();
                } else {
                    ask();
                }
            }
        }

        void text(String text, boolean isShape) {
            for (int i = 0; i < text.length(); i += 20) {
                int[] five = new int[5];
                for (int j = 0; j < 20; j++) {
                    int b = i + j < text.length() ? text.charAt(i + j) : 0;
                    five[j / 4] |= b << 24 - j % 4 * 8;
                }
                same("feed", () -> real.feed(five[0], five[1], five[2], five[3], five[4]),
                        () -> model.feed(five[0], five[1], five[2], five[3], five[4]));
            }
            same("count(1)", () -> real.count(1), () -> model.count(1));
            int n = log.size() > 20 && random.nextInt(20) == 0 ? random.nextInt(text.length() + 40) - 10 : text.length();
            if (isShape) {
                same("shape(" + n + ") " + text, () -> real.shape(n), () -> model.shape(n));
            } else {
                same("thief(" + n + ") " + text, () -> real.thief(n), () -> model.thief(n));
            }
            same("fault()", () -> real.fault(), () -> model.fault());
            same("count(1)", () -> real.count(1), () -> model.count(1));
        }

        int house() {
            return random.nextInt(40) == 0 ? random.nextInt(8) - 3 : random.nextInt(random.nextInt(3) == 0 ? 4 : 2);
        }

        int number() {
            int all = 1 << model.wide;
            int dice = random.nextInt(40);
            if (dice == 0) {
                return random.nextBoolean() ? -1 : all;
            }
            if (dice == 1) {
                return random.nextBoolean() ? -2 : all + 1;
            }
            if (dice == 2) {
                return random.nextInt();
            }
            if (dice < 8 && model.wide > 5) {
                return random.nextInt(20);
            }
            if (dice < 12) {
                return all - 1 - random.nextInt(Math.min(all, 4));
            }
            return random.nextInt(all);
        }

        int what(int most) {
            return random.nextInt(25) == 0 ? random.nextInt(most + 5) - 2 : random.nextInt(most + 1);
        }

        void change() {
            boolean joining = number % 5 == 0 && calls > 200;
            int h = joining && random.nextInt(20) > 0 ? 2 + random.nextInt(2) : house();
            int x = number();
            int dice = joining ? 50 + random.nextInt(10) : random.nextInt(60);
            if (dice < 40) {
                same("put(" + h + "," + x + ")", () -> real.put(h, x), () -> model.put(h, x));
            } else if (dice < 52) {
                same("drop(" + h + "," + x + ")", () -> real.drop(h, x), () -> model.drop(h, x));
            } else if (dice < 57) {
                int b = house();
                int how = what(2);
                same("joins(" + h + "," + b + "," + how + ")", () -> real.joins(h, b, how),
                        () -> model.joins(h, b, how));
            } else if (dice < 59) {
                int b = house();
                same("split(" + h + "," + b + "," + x + ")", () -> real.split(h, b, x), () -> model.split(h, b, x));
            } else if (random.nextBoolean()) {
                same("image()", () -> real.image(), () -> model.image());
            } else {
                same("restore()", () -> real.restore(), () -> model.restore());
            }
        }

        void small() {
            int call = what(4);
            int n = what(model.wide <= 4 ? 16 : 3);
            int k = random.nextInt(10) - 1;
            int rows = 1 + what(model.wide <= 4 ? 5 : 1);
            int w = what(2);
            same("worst", () -> real.worst(call, n, w), () -> model.worst(call, n, w));
            same("bad", () -> real.bad(call, n, k), () -> model.bad(call, n, k));
            same("reached", () -> real.reached(call), () -> model.reached(call));
            same("row", () -> real.row(rows), () -> model.row(rows));
            same("rowCall", () -> real.rowCall(rows, k), () -> model.rowCall(rows, k));
        }

        void ask() {
            int h = house();
            int x = number();
            int y = number();
            int call = what(4);
            int kind = what(2);
            int many = h >= 0 && h < 4 ? model.houses[h].size() : 3;
            int t = h >= 0 && h < 4 ? random.nextInt(model.changes[h].size() + 2) - (random.nextInt(20) == 0 ? 1 : 0) : 0;
            int k = random.nextInt(many + 3) - 1;
            switch (random.nextInt(26)) {
                case 0: same("told", () -> real.told(call), () -> model.told(call)); break;
                case 1: same("has", () -> real.has(h, x) ? 1 : 0, () -> model.has(h, x) ? 1 : 0); break;
                case 2: same("of", () -> real.of(h, call), () -> model.of(h, call)); break;
                case 3: same("next", () -> real.next(h, x), () -> model.next(h, x)); break;
                case 4: same("before", () -> real.before(h, x), () -> model.before(h, x)); break;
                case 5: same("kth", () -> real.kth(h, k), () -> model.kth(h, k)); break;
                case 6: same("between", () -> real.between(h, x, y), () -> model.between(h, x, y)); break;
                case 7: case 8: case 9: case 10: case 11:
                    same("touches(" + h + "," + call + "," + x + "," + kind + ")",
                            () -> real.touches(h, call, x, kind), () -> model.touches(h, call, x, kind));
                    break;
                case 12: case 13: same("size", () -> real.size(h, kind), () -> model.size(h, kind)); break;
                case 14: same("bound", () -> real.bound(call), () -> model.bound(call)); break;
                case 15: same("was", () -> real.was(h, t, kind), () -> model.was(h, t, kind)); break;
                case 16: case 17:
                    same("asked", () -> real.asked(h, t, call, x), () -> model.asked(h, t, call, x));
                    break;
                case 18: same("since", () -> real.since(h, x, kind), () -> model.since(h, x, kind)); break;
                case 19: same("room", () -> real.room(h, kind), () -> model.room(h, kind)); break;
                case 20: {
                    int b = house();
                    same("runs", () -> real.runs(h, b), () -> model.runs(h, b));
                    break;
                }
                case 21: same("gap", () -> real.gap(h, kind), () -> model.gap(h, kind)); break;
                case 22: case 23: steal(h); break;
                case 24: same("status", () -> real.status(call - 1), () -> model.status(call - 1)); break;
                default: same("count", () -> real.count(call - 1), () -> model.count(call - 1));
            }
        }

        void steal(int h) {
            int thief = random.nextInt(8) == 0 ? random.nextInt(7) - 1 : random.nextInt(Math.max(1, model.thieves.size()));
            int seed = random.nextInt(3) == 0 ? random.nextInt() : random.nextInt(5);
            int w = what(6);
            same("steals(" + thief + "," + h + "," + seed + "," + w + ")", () -> real.steals(thief, h, seed, w),
                    () -> model.steals(thief, h, seed, w));
            if (random.nextInt(3) == 0) {
                int m = random.nextInt(10) == 0 ? random.nextInt(25) - 1 : 1 + random.nextInt(3);
                int s = random.nextInt(4) == 0 ? Integer.MAX_VALUE : seed;
                int v = what(1);
                same("seeds(" + thief + "," + h + "," + s + "," + m + "," + v + ")",
                        () -> real.seeds(thief, h, s, m, v), () -> model.seeds(thief, h, s, m, v));
            }
        }
    }

    // ---------------------------------------------------------------- texts to be read

    static final class Texts {
        static String shape(Random r, boolean small) {
            List<String> clauses = new ArrayList<>();
            if (r.nextInt(6) > 0) {
                clauses.add("wide" + blanks(r) + (small ? 2 + r.nextInt(5) : 2 + r.nextInt(15)) + blanks(r) + ";");
            }
            if (r.nextInt(2) == 0) {
                clauses.add(blanks(r) + "upper " + (r.nextBoolean() ? "more" : "less") + blanks(r) + ";");
            }
            if (r.nextInt(3) == 0) {
                clauses.add(" ends 00" + (1 + r.nextInt(5)) + ";" + blanks(r));
            }
            java.util.Collections.shuffle(clauses, r);
            return String.join("", clauses);
        }

        static String blanks(Random r) {
            return r.nextInt(3) == 0 ? "  " : r.nextInt(2) == 0 ? " " : "";
        }

        static String thief(Random r) {
            StringBuilder b = new StringBuilder();
            int n = r.nextInt(12) == 0 ? 50 + r.nextInt(15) : 1 + r.nextInt(5);
            for (int i = 0; i < n && b.length() < 420; i++) {
                step(r, b, 0, n > 20);
            }
            String text = b.toString();
            return text.length() > 490 ? text.substring(0, 490) : text;
        }

        static void step(Random r, StringBuilder b, int depth, boolean brief) {
            if (!brief && b.length() < 300 && r.nextInt(3) == 0 && depth < (r.nextInt(8) == 0 ? 4 : 3)) {
                b.append("times").append(blanks(r)).append(1 + r.nextInt(r.nextInt(3) == 0 ? 99 : 9)).append(blanks(r)).append("[");
                int n = r.nextInt(4);
                for (int i = 0; i < n; i++) {
                    step(r, b, depth + 1, false);
                }
                b.append(blanks(r)).append("]");
                return;
            }
            String[] words = {"put", "drop", "has", "next", "before", "put", "put"};
            b.append(blanks(r)).append(words[r.nextInt(words.length)]).append(" ");
            sum(r, b, brief ? 9 : 0);
            b.append(blanks(r)).append(";");
        }

        static void sum(Random r, StringBuilder b, int depth) {
            int n = depth > 7 ? 1 : 1 + r.nextInt(3) * r.nextInt(2);
            for (int i = 0; i < n; i++) {
                if (i > 0) {
                    b.append(blanks(r)).append("+-*%+-*%%*".charAt(r.nextInt(10)));
                }
                int dice = r.nextInt(10);
                if (dice < 2 && depth < 8) {
                    b.append(blanks(r)).append("(");
                    sum(r, b, depth + 1 + r.nextInt(2));
                    b.append(blanks(r)).append(")");
                } else if (dice < 5) {
                    b.append(blanks(r)).append(r.nextInt(r.nextInt(3) == 0 ? 100000 : 20));
                } else {
                    String[] names = {"i", "o", "last", "many", "draw"};
                    b.append(blanks(r)).append(names[r.nextInt(5)]);
                }
            }
        }

        static String mutated(Random r, String text) {
            if (r.nextInt(3) > 0) {
                return text;
            }
            StringBuilder b = new StringBuilder(text);
            int n = 1 + r.nextInt(2);
            for (int i = 0; i < n; i++) {
                int at = r.nextInt(b.length() + 1);
                String signs = "[]();+-*% 0189ioz" + (char) 200 + (char) 9 + (char) 0;
                char sign = signs.charAt(r.nextInt(signs.length()));
                int dice = r.nextInt(5);
                if (dice == 0 || b.length() == 0 || at == b.length()) {
                    b.insert(at, sign);
                } else if (dice == 1) {
                    b.setCharAt(at, sign);
                } else if (dice == 2) {
                    b.deleteCharAt(at);
                } else if (dice == 3) {
                    b.setLength(at);
                } else {
                    b.insert(at, b.substring(at, Math.min(b.length(), at + r.nextInt(12))));
                }
            }
            return b.length() > 500 ? b.substring(0, 500) : b.toString();
        }
    }

    // ---------------------------------------------------------------- the model

    static final class Fault extends RuntimeException {
        private static final long serialVersionUID = 1;
        final int which;
        final int place;

        Fault(int which, int place) {
            this.which = which;
            this.place = place;
        }
    }

    static final class Node {
        String kind;
        int value;
        List<Node> parts = new ArrayList<>();

        Node(String kind, int value) {
            this.kind = kind;
            this.value = value;
        }
    }

    static class Reader {
        final int[] bytes;
        int at = 0;

        Reader(int[] bytes) {
            this.bytes = bytes;
        }

        int peek() {
            while (at < bytes.length && bytes[at] == 32) {
                at++;
            }
            return at < bytes.length ? bytes[at] : -1;
        }

        String word() {
            peek();
            StringBuilder b = new StringBuilder();
            while (at < bytes.length && bytes[at] >= 97 && bytes[at] <= 122) {
                b.append((char) bytes[at++]);
            }
            return b.toString();
        }

        int number(int least, int most) {
            peek();
            int start = at;
            java.math.BigInteger value = java.math.BigInteger.ZERO;
            while (at < bytes.length && bytes[at] >= 48 && bytes[at] <= 57) {
                value = value.multiply(java.math.BigInteger.TEN).add(java.math.BigInteger.valueOf(bytes[at++] - 48));
            }
            if (at == start) {
                throw new Fault(1, start);
            }
            if (value.compareTo(java.math.BigInteger.valueOf(least)) < 0
                    || value.compareTo(java.math.BigInteger.valueOf(most)) > 0) {
                throw new Fault(2, start);
            }
            return value.intValue();
        }

        void sign(char sign) {
            if (peek() != sign) {
                throw new Fault(1, at);
            }
            at++;
        }
    }

    static final class ThiefReader extends Reader {
        int steps = 0;

        ThiefReader(int[] bytes) {
            super(bytes);
        }

        Node all() {
            Node all = new Node("all", 0);
            while (peek() >= 0) {
                all.parts.add(step(0));
            }
            if (all.parts.isEmpty()) {
                throw new Fault(1, bytes.length);
            }
            return all;
        }

        Node step(int open) {
            peek();
            int start = at;
            String word = word();
            if (!List.of("put", "drop", "has", "next", "before", "times").contains(word)) {
                throw new Fault(1, start);
            }
            if (++steps > 60) {
                throw new Fault(3, start);
            }
            Node node = new Node(word, 0);
            if (!word.equals("times")) {
                node.parts.add(sum(0));
                sign(';');
                return node;
            }
            if (open == 3) {
                throw new Fault(3, start);
            }
            node.value = number(1, 99);
            sign('[');
            while (peek() != ']') {
                node.parts.add(step(open + 1));
            }
            at++;
            return node;
        }

        Node sum(int open) {
            Node left = product(open);
            while (peek() == '+' || peek() == '-') {
                Node node = new Node(String.valueOf((char) bytes[at++]), 0);
                node.parts.add(left);
                node.parts.add(product(open));
                left = node;
            }
            return left;
        }

        Node product(int open) {
            Node left = unit(open);
            while (peek() == '*' || peek() == '%') {
                Node node = new Node(String.valueOf((char) bytes[at++]), 0);
                node.parts.add(left);
                node.parts.add(unit(open));
                left = node;
            }
            return left;
        }

        Node unit(int open) {
            int first = peek();
            int start = at;
            if (first >= '0' && first <= '9') {
                return new Node("number", number(0, 99999));
            }
            if (first == '(') {
                if (open == 6) {
                    throw new Fault(3, at);
                }
                at++;
                Node inner = sum(open + 1);
                sign(')');
                return inner;
            }
            String word = word();
            if (!List.of("i", "o", "last", "many", "draw").contains(word)) {
                throw new Fault(1, start);
            }
            return new Node(word, 0);
        }
    }

    static final class Model {
        int wide = 8;
        boolean more = true;
        int ends = 1;
        List<Integer> tape = new ArrayList<>();
        int faultPlace = -1;
        List<Node> thieves = new ArrayList<>();
        TreeSet<Integer>[] houses = sets();
        /** Each CHANGE: x, 1 if it was put, its TOUCHES. */
        List<int[]>[] changes = lists();
        List<Object[]> images = new ArrayList<>();
        int[] refused = new int[3];
        Map<Integer, long[][]> worstKnown = new HashMap<>();
        Map<Long, Integer> rowKnown = new HashMap<>();

        @SuppressWarnings("unchecked")
        static TreeSet<Integer>[] sets() {
            TreeSet<Integer>[] sets = (TreeSet<Integer>[]) new TreeSet<?>[4];
            for (int i = 0; i < 4; i++) {
                sets[i] = new TreeSet<>();
            }
            return sets;
        }

        @SuppressWarnings("unchecked")
        static List<int[]>[] lists() {
            List<int[]>[] lists = (List<int[]>[]) new List<?>[4];
            for (int i = 0; i < 4; i++) {
                lists[i] = new ArrayList<>();
            }
            return lists;
        }

        void check(boolean fine) {
            if (!fine) {
                refused[2]++;
                throw new IllegalArgumentException();
            }
        }

        void house(int house) {
            if (house < 0 || house > 3) {
                refused[0]++;
                throw new IndexOutOfBoundsException();
            }
        }

        void theThief(int thief) {
            if (thief < 0 || thief >= thieves.size()) {
                refused[1]++;
                throw new NoSuchElementException();
            }
        }

        boolean in(int x, int least, int most) {
            return x >= least && x <= most;
        }

        boolean number(int x) {
            return in(x, 0, (1 << wide) - 1);
        }

        boolean askable(int call, int x) {
            return in(x, call == 3 ? -1 : 0, call == 4 ? 1 << wide : (1 << wide) - 1);
        }

        int feed(int a, int b, int c, int d, int e) {
            if (tape.size() + 20 > 500) {
                return -1;
            }
            for (int four : new int[] {a, b, c, d, e}) {
                tape.add(four >>> 24);
                tape.add(four >>> 16 & 255);
                tape.add(four >>> 8 & 255);
                tape.add(four & 255);
            }
            return tape.size();
        }

        int[] text(int n) {
            check(n >= 0 && n <= tape.size());
            int[] bytes = new int[n];
            for (int i = 0; i < n; i++) {
                bytes[i] = tape.get(i);
            }
            tape.clear();
            faultPlace = -1;
            return bytes;
        }

        int shape(int n) {
            Reader r = new Reader(text(n));
            int newWide = 8;
            boolean newMore = true;
            int newEnds = 1;
            List<String> seen = new ArrayList<>();
            try {
                while (r.peek() >= 0) {
                    int start = r.at;
                    String word = r.word();
                    if (!List.of("wide", "upper", "ends").contains(word)) {
                        throw new Fault(1, start);
                    }
                    if (seen.contains(word)) {
                        throw new Fault(4, start);
                    }
                    seen.add(word);
                    if (word.equals("wide")) {
                        newWide = r.number(2, 16);
                    } else if (word.equals("ends")) {
                        newEnds = r.number(1, 5);
                    } else {
                        r.peek();
                        int place = r.at;
                        String which = r.word();
                        if (!which.equals("more") && !which.equals("less")) {
                            throw new Fault(1, place);
                        }
                        newMore = which.equals("more");
                    }
                    r.sign(';');
                }
            } catch (Fault f) {
                faultPlace = f.place;
                return f.which - 10;
            }
            wide = newWide;
            more = newMore;
            ends = newEnds;
            houses = sets();
            changes = lists();
            images.clear();
            worstKnown.clear();
            rowKnown.clear();
            return wide;
        }

        int thief(int n) {
            int[] bytes = text(n);
            Node node;
            try {
                node = new ThiefReader(bytes).all();
            } catch (Fault f) {
                faultPlace = f.place;
                return f.which - 10;
            }
            if (thieves.size() == 4) {
                return -1;
            }
            thieves.add(node);
            return thieves.size() - 1;
        }

        int fault() {
            return faultPlace;
        }

        int told(int what) {
            check(in(what, 0, 3));
            return what == 0 ? wide : what == 1 ? (more ? 1 : 0) : what == 2 ? ends : thieves.size();
        }

        void change(int house, int x, boolean put) {
            int touched = halves(put ? 0 : 1, houses[house], wide, x);
            boolean done = put ? houses[house].add(x) : houses[house].remove(x);
            if (done) {
                changes[house].add(new int[] {x, put ? 1 : 0, touched});
            }
        }

        int put(int house, int x) {
            house(house);
            check(number(x));
            if (houses[house].contains(x)) {
                return 0;
            }
            if (houses[house].size() == 2000) {
                return -1;
            }
            if (changes[house].size() == 1000) {
                return -2;
            }
            change(house, x, true);
            return 1;
        }

        int drop(int house, int x) {
            house(house);
            check(number(x));
            if (!houses[house].contains(x)) {
                return 0;
            }
            if (changes[house].size() == 1000) {
                return -2;
            }
            change(house, x, false);
            return 1;
        }

        boolean has(int house, int x) {
            house(house);
            check(number(x));
            return houses[house].contains(x);
        }

        static int first(TreeSet<Integer> s) {
            return s.isEmpty() ? -1 : s.first();
        }

        static int last(TreeSet<Integer> s) {
            return s.isEmpty() ? -1 : s.last();
        }

        static int none(Integer x) {
            return x == null ? -1 : x;
        }

        int of(int house, int what) {
            house(house);
            check(in(what, 0, 3));
            TreeSet<Integer> s = houses[house];
            return what == 0 ? s.size() : what == 1 ? first(s) : what == 2 ? last(s) : changes[house].size();
        }

        int next(int house, int x) {
            house(house);
            check(askable(3, x));
            return none(houses[house].higher(x));
        }

        int before(int house, int x) {
            house(house);
            check(askable(4, x));
            return none(houses[house].lower(x));
        }

        int kth(int house, int k) {
            house(house);
            return k < 0 || k >= houses[house].size() ? -1 : new ArrayList<>(houses[house]).get(k);
        }

        int between(int house, int a, int b) {
            house(house);
            check(number(a) && number(b));
            return a > b ? 0 : houses[house].subSet(a, true, b, true).size();
        }

        int upper(int w) {
            return w % 2 == 0 ? w / 2 : more ? w / 2 + 1 : w / 2;
        }

        TreeMap<Integer, TreeSet<Integer>> rooms(TreeSet<Integer> s, int l) {
            TreeMap<Integer, TreeSet<Integer>> rooms = new TreeMap<>();
            for (int y : s) {
                if (y != s.first() && y != s.last()) {
                    rooms.computeIfAbsent(y >> l, k -> new TreeSet<>()).add(y & (1 << l) - 1);
                }
            }
            return rooms;
        }

        int cells(TreeSet<Integer> s, int w) {
            if (s.isEmpty()) {
                return 0;
            }
            if (w <= ends) {
                return 1;
            }
            int l = w - upper(w);
            TreeMap<Integer, TreeSet<Integer>> rooms = rooms(s, l);
            int sum = 2 + cells(new TreeSet<>(rooms.keySet()), w - l);
            for (TreeSet<Integer> room : rooms.values()) {
                sum += cells(room, l);
            }
            return sum;
        }

        int halves(int call, TreeSet<Integer> s, int w, int x) {
            if (w <= ends || s.isEmpty()) {
                return 1;
            }
            int least = s.first();
            int greatest = s.last();
            int l = w - upper(w);
            TreeMap<Integer, TreeSet<Integer>> rooms = rooms(s, l);
            TreeSet<Integer> list = new TreeSet<>(rooms.keySet());
            int low = (1 << l) - 1;
            TreeSet<Integer> empty = new TreeSet<>();
            switch (call) {
                case 0: {
                    if (x == least || x == greatest || s.size() == 1) {
                        return 1;
                    }
                    int y = x < least ? least : x > greatest ? greatest : x;
                    TreeSet<Integer> room = rooms.getOrDefault(y >> l, empty);
                    return room.isEmpty() ? 1 + halves(0, list, w - l, y >> l) + 1 : 1 + halves(0, room, l, y & low);
                }
                case 1: {
                    if (x < least || x > greatest || s.size() == 1 || (x == least || x == greatest) && list.isEmpty()) {
                        return 1;
                    }
                    int sum = 1;
                    int y = x;
                    if (x == least) {
                        sum += 2;
                        y = s.higher(least);
                    } else if (x == greatest) {
                        sum += 2;
                        y = s.lower(greatest);
                    }
                    TreeSet<Integer> room = rooms.getOrDefault(y >> l, empty);
                    if (room.isEmpty()) {
                        return sum;
                    }
                    sum += halves(1, room, l, y & low);
                    if (room.size() == 1 && room.contains(y & low)) {
                        sum += halves(1, list, w - l, y >> l);
                    }
                    return sum;
                }
                case 2: {
                    if (x <= least || x >= greatest || !rooms.containsKey(x >> l)) {
                        return 1;
                    }
                    return 1 + halves(2, rooms.get(x >> l), l, x & low);
                }
                case 3: {
                    if (x < least || x >= greatest || list.isEmpty()) {
                        return 1;
                    }
                    int sum = 1;
                    TreeSet<Integer> room = rooms.getOrDefault(x >> l, empty);
                    if (!room.isEmpty()) {
                        sum++;
                        if ((x & low) < room.last()) {
                            return sum + halves(3, room, l, x & low);
                        }
                    }
                    return sum + halves(3, list, w - l, x >> l) + (list.higher(x >> l) != null ? 1 : 0);
                }
                default: {
                    if (x > greatest || x <= least || list.isEmpty()) {
                        return 1;
                    }
                    int sum = 1;
                    TreeSet<Integer> room = rooms.getOrDefault(x >> l, empty);
                    if (!room.isEmpty()) {
                        sum++;
                        if ((x & low) > room.first()) {
                            return sum + halves(4, room, l, x & low);
                        }
                    }
                    return sum + halves(4, list, w - l, x >> l) + (list.lower(x >> l) != null ? 1 : 0);
                }
            }
        }

        int words(int call, TreeSet<Integer> s, int x) {
            if (call < 3) {
                return 1;
            }
            int all = 1 << wide;
            int touched = 0;
            if (call == 3) {
                for (int word = (x + 1) / 32; word * 32 < all && x + 1 < all; word++) {
                    touched++;
                    if (s.higher(x) != null && s.higher(x) / 32 == word) {
                        break;
                    }
                }
            } else {
                for (int word = (x - 1) / 32; word >= 0 && x > 0; word--) {
                    touched++;
                    if (s.lower(x) != null && s.lower(x) / 32 == word) {
                        break;
                    }
                }
            }
            return touched;
        }

        int sorted(int call, TreeSet<Integer> s, int x) {
            List<Integer> row = new ArrayList<>(s);
            int n = row.size();
            int a = 0;
            int b = n;
            int touched = 0;
            int sought = call == 3 ? x + 1 : x;
            while (a < b) {
                int middle = (a + b) / 2;
                touched++;
                if (row.get(middle) < sought) {
                    a = middle + 1;
                } else {
                    b = middle;
                }
            }
            touched += call == 4 ? (a > 0 ? 1 : 0) : (a < n ? 1 : 0);
            if (call == 0 && !s.contains(x)) {
                touched += n - a + 1;
            }
            if (call == 1 && s.contains(x)) {
                touched += n - a - 1;
            }
            return touched;
        }

        int touches(int house, int call, int x, int kind) {
            house(house);
            check(in(call, 0, 4) && in(kind, 0, 2) && askable(call, x));
            TreeSet<Integer> s = houses[house];
            return kind == 0 ? halves(call, s, wide, x) : kind == 1 ? words(call, s, x) : sorted(call, s, x);
        }

        int size(int house, int kind) {
            house(house);
            check(in(kind, 0, 2));
            return kind == 0 ? cells(houses[house], wide) : kind == 1 ? Math.max(1, (1 << wide) / 32)
                    : houses[house].size();
        }

        int boundOf(int call, int w) {
            if (w <= ends) {
                return 1;
            }
            int u = boundOf(call, upper(w));
            int l = boundOf(call, w - upper(w));
            int greater = Math.max(l, 1 + u);
            return call == 0 ? 1 + greater : call == 1 ? 3 + greater : call == 2 ? 1 + l : 2 + greater;
        }

        int bound(int call) {
            check(in(call, 0, 4));
            return boundOf(call, wide);
        }

        /** HALVES of a set that is told by its bits (W to 6). */
        int bitHalves(int call, long s, int w, int x) {
            if (w <= ends || s == 0) {
                return 1;
            }
            int least = Long.numberOfTrailingZeros(s);
            int greatest = 63 - Long.numberOfLeadingZeros(s);
            long inside = s & ~(1L << least) & ~(1L << greatest);
            int u = upper(w);
            int l = w - u;
            long list = 0;
            for (int h = 0; h < 1 << u; h++) {
                if (roomOf(inside, h, l) != 0) {
                    list |= 1L << h;
                }
            }
            int low = (1 << l) - 1;
            boolean alone = least == greatest;
            if (call == 0) {
                if (x == least || x == greatest || alone) {
                    return 1;
                }
                int y = x < least ? least : x > greatest ? greatest : x;
                long room = roomOf(inside, y >> l, l);
                return room == 0 ? 2 + bitHalves(0, list, u, y >> l) : 1 + bitHalves(0, room, l, y & low);
            }
            if (call == 1) {
                boolean edge = x == least || x == greatest;
                if (x < least || x > greatest || alone || edge && inside == 0) {
                    return 1;
                }
                int y = x == least ? Long.numberOfTrailingZeros(inside)
                        : x == greatest ? 63 - Long.numberOfLeadingZeros(inside) : x;
                long room = roomOf(inside, y >> l, l);
                int sum = edge ? 3 : 1;
                if (room != 0) {
                    sum += bitHalves(1, room, l, y & low);
                    if (room == 1L << (y & low)) {
                        sum += bitHalves(1, list, u, y >> l);
                    }
                }
                return sum;
            }
            if (call == 2) {
                if (x <= least || x >= greatest || roomOf(inside, x >> l, l) == 0) {
                    return 1;
                }
                return 1 + bitHalves(2, roomOf(inside, x >> l, l), l, x & low);
            }
            if (inside == 0 || (call == 3 ? x < least || x >= greatest : x > greatest || x <= least)) {
                return 1;
            }
            long room = roomOf(inside, x >> l, l);
            int sum = 1;
            if (room != 0) {
                sum++;
                if (call == 3 ? (x & low) < 63 - Long.numberOfLeadingZeros(room)
                        : (x & low) > Long.numberOfTrailingZeros(room)) {
                    return sum + bitHalves(call, room, l, x & low);
                }
            }
            int h = x >> l;
            boolean one = call == 3 ? 63 - Long.numberOfLeadingZeros(list) > h : Long.numberOfTrailingZeros(list) < h;
            return sum + bitHalves(call, list, u, h) + (one ? 1 : 0);
        }

        static long roomOf(long inside, int h, int l) {
            return inside >>> (h << l) & (1L << (1 << l)) - 1;
        }

        /** By going through all, once for each call: TOUCHES, x and the set of the worst sets of just so many. */
        long[][] worstBySize(int call) {
            return worstKnown.computeIfAbsent(call, key -> {
                long[][] best = new long[17][3];
                int all = 1 << wide;
                if (wide <= 4) {
                    for (long s = 0; s < 1L << all; s++) {
                        tryAll(call, s, best);
                    }
                    return best;
                }
                tryAll(call, 0, best);
                for (int a = 0; a < all; a++) {
                    tryAll(call, 1L << a, best);
                    for (int b = 0; b < a; b++) {
                        tryAll(call, 1L << a | 1L << b, best);
                        for (int c = 0; c < b; c++) {
                            tryAll(call, 1L << a | 1L << b | 1L << c, best);
                        }
                    }
                }
                return best;
            });
        }

        void tryAll(int call, long s, long[][] best) {
            long[] of = best[Long.bitCount(s)];
            for (int x = 0; x < 1 << wide; x++) {
                long touched = bitHalves(call, s, wide, x);
                if (touched > of[0] || touched == of[0] && Long.compareUnsigned(s, of[2]) < 0) {
                    of[0] = touched;
                    of[1] = x;
                    of[2] = s;
                }
            }
        }

        long[] worstOf(int call, int n) {
            long[][] best = worstBySize(call);
            long[] found = best[0];
            for (int size = 1; size <= n; size++) {
                if (best[size][0] > found[0]) {
                    found = best[size];
                }
            }
            return found;
        }

        void small(int call, int n) {
            check(wide <= 6 && in(call, 0, 4) && in(n, 0, wide <= 4 ? 16 : 3));
        }

        int worst(int call, int n, int what) {
            check(in(what, 0, 2) && wide <= 6 && in(call, 0, 4) && in(n, 0, wide <= 4 ? 16 : 3));
            long[] found = worstOf(call, n);
            return what == 0 ? (int) found[0] : what == 1 ? Long.bitCount(found[2]) : (int) found[1];
        }

        int bad(int call, int n, int k) {
            small(call, n);
            long s = worstOf(call, n)[2];
            for (int x = 0; x < 64; x++) {
                if ((s >>> x & 1) == 1 && k-- == 0) {
                    return x;
                }
            }
            return -1;
        }

        int reached(int call) {
            small(call, 0);
            for (int n = 0; n <= (wide <= 4 ? 16 : 3); n++) {
                if (worstOf(call, n)[0] == boundOf(call, wide)) {
                    return n;
                }
            }
            return -1;
        }

        static long after(int call, long s, int x) {
            return call == 0 ? s | 1L << x : call == 1 ? s & ~(1L << x) : s;
        }

        int rowFrom(int left, long s) {
            if (left == 0) {
                return 0;
            }
            long key = s * 10 + left;
            Integer known = rowKnown.get(key);
            if (known != null) {
                return known;
            }
            int best = 0;
            for (int call = 0; call < 5; call++) {
                for (int x = 0; x < 1 << wide; x++) {
                    best = Math.max(best, bitHalves(call, s, wide, x) + rowFrom(left - 1, after(call, s, x)));
                }
            }
            rowKnown.put(key, best);
            return best;
        }

        int row(int n) {
            check(wide <= 6 && in(n, 1, wide <= 4 ? 6 : 2));
            return rowFrom(n, 0);
        }

        int rowCall(int n, int k) {
            check(wide <= 6 && in(n, 1, wide <= 4 ? 6 : 2));
            long s = 0;
            for (int left = n; left > 0; left--) {
                int found = -1;
                for (int which = 0; which < 5 << wide && found < 0; which++) {
                    int call = which >> wide;
                    int x = which & (1 << wide) - 1;
                    if (bitHalves(call, s, wide, x) + rowFrom(left - 1, after(call, s, x)) == rowFrom(left, s)) {
                        found = which;
                    }
                }
                if (n - left == k) {
                    return 100 * (found >> wide) + (found & (1 << wide) - 1);
                }
                s = after(found >> wide, s, found & (1 << wide) - 1);
            }
            return -1;
        }

        TreeSet<Integer> at(int house, int t) {
            TreeSet<Integer> s = new TreeSet<>();
            for (int[] c : changes[house].subList(0, t)) {
                if (c[1] == 1) {
                    s.add(c[0]);
                } else {
                    s.remove(c[0]);
                }
            }
            return s;
        }

        int was(int house, int t, int what) {
            house(house);
            check(in(t, 0, changes[house].size()) && in(what, 0, 2));
            TreeSet<Integer> s = at(house, t);
            return what == 0 ? s.size() : what == 1 ? first(s) : last(s);
        }

        int asked(int house, int t, int call, int x) {
            house(house);
            check(in(t, 0, changes[house].size()) && in(call, 2, 4) && askable(call, x));
            TreeSet<Integer> s = at(house, t);
            return call == 2 ? (s.contains(x) ? 1 : 0) : none(call == 3 ? s.higher(x) : s.lower(x));
        }

        int since(int house, int x, int what) {
            house(house);
            check(number(x) && in(what, 0, 1));
            int time = -1;
            for (int i = 0; i < changes[house].size(); i++) {
                int[] c = changes[house].get(i);
                if (c[0] == x && c[1] == 1 - what) {
                    time = i + 1;
                }
            }
            return time;
        }

        int room(int house, int what) {
            house(house);
            check(in(what, 0, 1));
            return what == 1 ? changes[house].size() : changes[house].stream().mapToInt(c -> c[2]).sum();
        }

        int joins(int a, int b, int how) {
            house(a);
            house(b);
            check(a != b && in(how, 0, 2));
            TreeSet<Integer> then = new TreeSet<>(houses[a]);
            List<Integer> named = new ArrayList<>(houses[b]);
            if (how == 0) {
                then.addAll(houses[b]);
            } else if (how == 1) {
                named = new ArrayList<>(houses[a]);
                named.removeAll(houses[b]);
                then.removeAll(named);
            } else {
                then.removeAll(houses[b]);
            }
            if (then.size() > 2000) {
                return -1;
            }
            if (changes[a].size() + Math.abs(then.size() - houses[a].size()) > 1000) {
                return -2;
            }
            int sum = 0;
            for (int x : named) {
                sum += halves(how == 0 ? 0 : 1, houses[a], wide, x);
                change(a, x, how == 0);
            }
            return sum;
        }

        int runs(int a, int b) {
            house(a);
            house(b);
            int runs = 0;
            int side = 0;
            TreeSet<Integer> all = new TreeSet<>(houses[a]);
            all.addAll(houses[b]);
            for (int x : all) {
                int now = houses[a].contains(x) && houses[b].contains(x) ? 0 : houses[a].contains(x) ? 1 : 2;
                if (now != 0 && now != side) {
                    runs++;
                    side = now;
                }
            }
            return runs;
        }

        int split(int a, int b, int x) {
            house(a);
            house(b);
            check(a != b && number(x));
            List<Integer> moving = new ArrayList<>(houses[a].tailSet(x));
            TreeSet<Integer> then = new TreeSet<>(houses[b]);
            then.addAll(moving);
            if (then.size() > 2000) {
                return -1;
            }
            if (changes[a].size() + moving.size() > 1000
                    || changes[b].size() + then.size() - houses[b].size() > 1000) {
                return -2;
            }
            int sum = 0;
            for (int y : moving) {
                sum += halves(1, houses[a], wide, y) + halves(0, houses[b], wide, y);
                change(a, y, false);
                change(b, y, true);
            }
            return sum;
        }

        int gap(int house, int what) {
            house(house);
            check(in(what, 0, 1));
            int widest = -1;
            int where = -1;
            for (int x : houses[house]) {
                Integer y = houses[house].higher(x);
                if (y != null && y - x > widest) {
                    widest = y - x;
                    where = x;
                }
            }
            return what == 0 ? widest : where;
        }

        int steals(int thief, int house, int seed, int what) {
            house(house);
            theThief(thief);
            check(in(what, 0, 6));
            return new Theft(this, houses[house], seed).all(thieves.get(thief))[what];
        }

        int seeds(int thief, int house, int s, int m, int what) {
            house(house);
            theThief(thief);
            check(in(m, 1, 20) && in(what, 0, 1));
            int best = 0;
            int most = -1;
            for (int i = 0; i < m; i++) {
                int now = new Theft(this, houses[house], s + i).all(thieves.get(thief))[2];
                if (now > most) {
                    most = now;
                    best = i;
                }
            }
            return what == 0 ? best : most;
        }

        int image() {
            if (images.size() == 3) {
                return -1;
            }
            TreeSet<Integer>[] h = sets();
            List<int[]>[] c = lists();
            for (int i = 0; i < 4; i++) {
                h[i].addAll(houses[i]);
                c[i].addAll(changes[i]);
            }
            images.add(new Object[] {h, c});
            return images.size();
        }

        @SuppressWarnings("unchecked")
        int restore() {
            if (images.isEmpty()) {
                return -1;
            }
            Object[] image = images.remove(images.size() - 1);
            houses = (TreeSet<Integer>[]) image[0];
            changes = (List<int[]>[]) image[1];
            return images.size();
        }

        int status(int what) {
            return in(what, 0, 2) ? refused[what] : -1;
        }

        int count(int what) {
            if (what == 2) {
                return houses[0].size() + houses[1].size() + houses[2].size() + houses[3].size();
            }
            return what == 0 ? images.size() : what == 1 ? tape.size() : -1;
        }
    }

    static final class Theft {
        final Model model;
        final TreeSet<Integer> set;
        int seed;
        int last = 0;
        boolean over = false;
        final List<Integer> rounds = new ArrayList<>();
        final int[] answer = {0, 0, 0, -1, 0, 0, 0};

        Theft(Model model, TreeSet<Integer> house, int seed) {
            this.model = model;
            this.set = new TreeSet<>(house);
            this.seed = seed;
        }

        int[] all(Node thief) {
            for (Node step : thief.parts) {
                step(step);
            }
            answer[6] = set.size();
            return answer;
        }

        void step(Node node) {
            if (over) {
                return;
            }
            if (node.kind.equals("times")) {
                rounds.add(0);
                for (int i = 0; i < node.value && !over; i++) {
                    rounds.set(rounds.size() - 1, i);
                    for (Node part : node.parts) {
                        step(part);
                    }
                }
                rounds.remove(rounds.size() - 1);
                return;
            }
            int call = List.of("put", "drop", "has", "next", "before").indexOf(node.kind);
            int x = value(node.parts.get(0)) & (1 << model.wide) - 1;
            if (answer[0] == 2000 || call == 0 && set.size() == 2000) {
                over = true;
                return;
            }
            int touched = model.halves(call, set, model.wide, x);
            if (touched > answer[2]) {
                answer[2] = touched;
                answer[3] = answer[0];
            }
            answer[0]++;
            answer[1] += touched;
            answer[4] += model.words(call, set, x);
            answer[5] += model.sorted(call, set, x);
            switch (call) {
                case 0: last = set.add(x) ? 1 : 0; break;
                case 1: last = set.remove(x) ? 1 : 0; break;
                case 2: last = set.contains(x) ? 1 : 0; break;
                case 3: last = Model.none(set.higher(x)); break;
                default: last = Model.none(set.lower(x));
            }
        }

        int value(Node node) {
            switch (node.kind) {
                case "number": return node.value;
                case "i": return rounds.isEmpty() ? 0 : rounds.get(rounds.size() - 1);
                case "o": return rounds.size() < 2 ? 0 : rounds.get(rounds.size() - 2);
                case "last": return last;
                case "many": return set.size();
                case "draw":
                    seed = seed * 1103515245 + 12345;
                    return (seed >>> 8 & 0xFFFF) % (1 << model.wide);
                default:
            }
            int left = value(node.parts.get(0));
            int right = value(node.parts.get(1));
            switch (node.kind) {
                case "+": return left + right;
                case "-": return left - right;
                case "*": return left * right;
                default: return right == 0 ? 0 : left % right;
            }
        }
    }
}
