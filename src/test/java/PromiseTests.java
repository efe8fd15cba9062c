import java.lang.reflect.Constructor;
import java.lang.reflect.Field;
import java.lang.reflect.InvocationTargetException;
import java.lang.reflect.Method;
import java.lang.reflect.Modifier;
import java.util.ArrayList;
import java.util.Arrays;
import java.util.Collections;
import java.util.List;
import java.util.NoSuchElementException;

/** For each promise of the document: ordinary inputs, the edges that it names, and wrong inputs; all by hand. */
public final class PromiseTests {
    private static final int INDEX = -100;
    private static final int ELEMENT = -101;
    private static final int ARGUMENT = -102;
    private static int wrong = 0;
    private static String where = "";

    interface Asking {
        int ask();
    }

    public static void main(String[] args) {
        face();
        extremes();
        promise1();
        promise2();
        promise3();
        promise3Faults();
        promise4();
        promise4Faults();
        promise4Limits();
        promise5();
        promise6();
        promise7();
        promise8();
        promise9();
        promise10();
        promise11();
        promise12();
        promise13();
        promise14();
        promise15Put();
        promise15Drop();
        promise15Asking();
        promise15OtherKinds();
        promise16();
        promise17();
        promise18();
        promise19();
        promise20();
        promise21();
        promise22();
        promise23();
        promise24();
        promise24Limits();
        promise25();
        promise26();
        promise26Reckoning();
        promise26Ends();
        promise27();
        promise28();
        promise29();
        promise30();
        promise31();
        promise32();
        promise33And34();
        promise35();
        promise36();
        System.out.println(wrong == 0 ? "promises: all answers are as due" : "promises: " + wrong + " wrong");
        System.exit(wrong == 0 ? 0 : 1);
    }

    // ---------------------------------------------------------------- help

    static void due(String call, int got, int due) {
        if (got != due) {
            wrong++;
            System.out.println(where + ": " + call + " answered " + got + ", due is " + due);
        }
    }

    /** The answer, or INDEX, ELEMENT, ARGUMENT for the exception. */
    static void due(String call, Asking asking, int due) {
        int got;
        try {
            got = asking.ask();
        } catch (IndexOutOfBoundsException e) {
            got = e.getClass() == IndexOutOfBoundsException.class ? INDEX : -200;
        } catch (NoSuchElementException e) {
            got = e.getClass() == NoSuchElementException.class ? ELEMENT : -201;
        } catch (IllegalArgumentException e) {
            got = e.getClass() == IllegalArgumentException.class ? ARGUMENT : -202;
        }
        due(call, got, due);
    }

    static void feed(HalvingHouse x, String text) {
        for (int i = 0; i < text.length(); i += 20) {
            int[] five = new int[5];
            for (int j = 0; j < 20 && i + j < text.length(); j++) {
                five[j / 4] |= text.charAt(i + j) << 24 - j % 4 * 8;
            }
            x.feed(five[0], five[1], five[2], five[3], five[4]);
        }
    }

    static int shape(HalvingHouse x, String text) {
        feed(x, text);
        return x.shape(text.length());
    }

    static int thief(HalvingHouse x, String text) {
        feed(x, text);
        return x.thief(text.length());
    }

    static HalvingHouse of(String text) {
        HalvingHouse x = new HalvingHouse();
        shape(x, text);
        return x;
    }

    static HalvingHouse of(String text, int... numbers) {
        HalvingHouse x = of(text);
        for (int number : numbers) {
            x.put(0, number);
        }
        return x;
    }

    /** The first times numbers, each put into a house. */
    static void fill(HalvingHouse x, int house, int first, int times) {
        for (int i = 0; i < times; i++) {
            x.put(house, first + i);
        }
    }

    static String numbers(HalvingHouse x, int house) {
        List<Integer> all = new ArrayList<>();
        for (int k = 0; x.kth(house, k) != HalvingHouse.NONE; k++) {
            all.add(x.kth(house, k));
        }
        return all.toString();
    }

    static void holds(HalvingHouse x, int house, String due) {
        if (!numbers(x, house).equals(due)) {
            wrong++;
            System.out.println(where + ": house " + house + " holds " + numbers(x, house) + ", due is " + due);
        }
    }

    // ---------------------------------------------------------------- the face

    static void face() {
        where = "face";
        List<String> members = new ArrayList<>();
        for (Field f : HalvingHouse.class.getDeclaredFields()) {
            if (!Modifier.isPrivate(f.getModifiers()) && !f.isSynthetic()) {
                members.add(f.getName());
            }
        }
        for (Constructor<?> c : HalvingHouse.class.getDeclaredConstructors()) {
            if (!Modifier.isPrivate(c.getModifiers())) {
                members.add("new" + c.getParameterCount());
            }
        }
        for (Method m : HalvingHouse.class.getDeclaredMethods()) {
            if (!Modifier.isPrivate(m.getModifiers()) && !m.isSynthetic()) {
                members.add(m.getReturnType() + m.getName() + m.getParameterCount());
            }
        }
        Collections.sort(members);
        List<String> expected = new ArrayList<>(Arrays.asList("NONE", "new0", "booleanhas2"));
        for (String name : ("feed5 shape1 thief1 fault0 told1 put2 drop2 of2 next2 before2 kth2 between3 touches4 size2 "
                + "bound1 worst3 bad3 was3 asked4 since3 room2 joins3 runs2 steals4 reached1 row1 rowCall2 split3 "
                + "gap2 seeds5 image0 restore0 status1 count1").split(" ")) {
            expected.add("int" + name);
        }
        Collections.sort(expected);
        due("members " + members, members.equals(expected) ? 1 : 0, 1);
        due("NONE", HalvingHouse.NONE, -1);
        int modifiers = HalvingHouse.class.getModifiers();
        due("public final", Modifier.isPublic(modifiers) && Modifier.isFinal(modifiers) ? 1 : 0, 1);
    }

    /** Whatever numbers come, only the exceptions of the throws clause are thrown, and those themselves. */
    static void extremes() {
        where = "extremes";
        int[] values = {Integer.MIN_VALUE, -2, -1, 0, 1, 2, 3, 4, 16, 17, Integer.MAX_VALUE};
        for (Method method : HalvingHouse.class.getDeclaredMethods()) {
            int count = method.getParameterCount();
            int all = (int) Math.pow(values.length, count);
            HalvingHouse x = null;
            for (int i = 0; i < all && Modifier.isPublic(method.getModifiers()); i += count > 3 ? 7 : 1) {
                if (x == null || i % 300 < 7) {
                    x = of("wide 4;", 1, 3, 4, 9, 15);
                    thief(x, "times 9 [ put draw; drop i; next last; ]");
                    x.put(1, 4);
                    x.image();
                }
                Object[] arguments = new Object[count];
                for (int k = 0, left = i; k < count; k++, left /= values.length) {
                    arguments[k] = values[left % values.length];
                }
                extreme(x, method, arguments);
            }
        }
    }

    static void extreme(HalvingHouse x, Method method, Object[] arguments) {
        try {
            method.invoke(x, arguments);
        } catch (InvocationTargetException e) {
            if (!Arrays.asList(method.getExceptionTypes()).contains(e.getCause().getClass())) {
                due(method.getName() + Arrays.toString(arguments) + " threw " + e.getCause(), 0, 1);
            }
        } catch (IllegalAccessException e) {
            due(method.getName() + " can't be called", 0, 1);
        }
    }

    // ---------------------------------------------------------------- texts

    static void promise1() {
        where = "promise 1";
        HalvingHouse x = new HalvingHouse();
        due("told(0)", x.told(0), 8);
        due("told(1)", x.told(1), 1);
        due("told(2)", x.told(2), 1);
        due("told(3)", x.told(3), 0);
        due("fault()", x.fault(), -1);
        for (int house = 0; house < 4; house++) {
            due("of", x.of(house, 0), 0);
            due("changes", x.of(house, 3), 0);
        }
        for (int what = 0; what < 3; what++) {
            due("count", x.count(what), 0);
            due("status", x.status(what), 0);
        }
        due("put(3,255)", x.put(3, 255), 1);
        due("restore()", x.restore(), -1);
    }

    static void promise2() {
        where = "promise 2";
        HalvingHouse x = new HalvingHouse();
        // "wide", " 4;u", "pper", " les", "s;  "
        due("feed", x.feed(0x77696465, 0x20343B75, 0x70706572, 0x206C6573, 0x733B2020), 20);
        due("count(1)", x.count(1), 20);
        due("shape(20)", x.shape(20), 4);
        due("told(1)", x.told(1), 0);
        for (int i = 1; i <= 25; i++) {
            due("feed", x.feed(-1, 0, 0, 0, 0), i * 20);
        }
        due("feed at 500", x.feed(0, 0, 0, 0, 0), -1);
        due("count(1)", x.count(1), 500);
        due("shape(500)", x.shape(500), -9);
        due("fault()", x.fault(), 0);
        due("feed again", x.feed(0, 0, 0, 0, 0), 20);
        // Blanks to the last byte of 500.
        HalvingHouse y = new HalvingHouse();
        for (int i = 0; i < 24; i++) {
            y.feed(0x20202020, 0x20202020, 0x20202020, 0x20202020, 0x20202020);
        }
        y.feed(0x20202020, 0x20202020, 0x20202077, 0x69646520, 0x3136203B);
        due("shape(500)", y.shape(500), 16);
    }

    static void promise3() {
        where = "promise 3";
        HalvingHouse x = new HalvingHouse();
        due("empty", shape(x, ""), 8);
        due("wide", shape(x, "wide 16;"), 16);
        due("least", shape(x, "wide2;"), 2);
        due("all", shape(x, "  ends  5 ; upper less ;wide 0000011  ;  "), 11);
        due("told(1)", x.told(1), 0);
        due("told(2)", x.told(2), 5);
        due("defaults again", shape(x, "upper more;"), 8);
        due("told(2)", x.told(2), 1);
        due("told(1)", x.told(1), 1);
        x.put(0, 200);
        x.put(3, 7);
        x.image();
        thief(x, "put 1;");
        // What fails leaves all as it was, but for the TAPE.
        due("fault", shape(x, "wide 4; ends 9;"), -8);
        due("count(1)", x.count(1), 0);
        due("told(0)", x.told(0), 8);
        due("count(0)", x.count(0), 1);
        due("count(2)", x.count(2), 2);
        due("of(0,3)", x.of(0, 3), 1);
        feed(x, "wide 5;wide 6;");
        due("shape(21)", () -> x.shape(21), ARGUMENT);
        due("shape(-1)", () -> x.shape(-1), ARGUMENT);
        due("count(1)", x.count(1), 20);
        due("fault()", x.fault(), 13);
        due("only the first 7", x.shape(7), 5);
        due("fault()", x.fault(), -1);
        due("count(1)", x.count(1), 0);
        due("count(0)", x.count(0), 0);
        due("count(2)", x.count(2), 0);
        due("of(0,3)", x.of(0, 3), 0);
        due("told(3)", x.told(3), 1);
        due("restore()", x.restore(), -1);
        due("shape(0)", x.shape(0), 8);
        due("shape(1)", () -> x.shape(1), ARGUMENT);
        due("status(2)", x.status(2), 3);
    }

    static void shapeFault(String text, int fault, int place) {
        HalvingHouse x = new HalvingHouse();
        due("shape " + text, shape(x, text), fault - 10);
        due("fault of " + text, x.fault(), place);
        due("told(0) of " + text, x.told(0), 8);
    }

    static void promise3Faults() {
        where = "promise 3, faults";
        shapeFault("wide", 1, 4);
        shapeFault("wide  ", 1, 6);
        shapeFault("wide 4", 1, 6);
        shapeFault("wide 4  ", 1, 8);
        shapeFault("wide ;", 1, 5);
        shapeFault("wide x;", 1, 5);
        shapeFault("wide -4;", 1, 5);
        shapeFault("wide 4 4;", 1, 7);
        shapeFault("wide 4.", 1, 6);
        shapeFault("wide 4;;", 1, 7);
        shapeFault(" wides 4;", 1, 1);
        shapeFault("Wide 4;", 1, 0);
        shapeFault("4;", 1, 0);
        shapeFault("upper", 1, 5);
        shapeFault("upper  moreless;", 1, 7);
        shapeFault("upper 1;", 1, 6);
        shapeFault("uppermore;", 1, 0);
        shapeFault("wide\t4;", 1, 4);
        shapeFault("wide 1;", 2, 5);
        shapeFault("wide 17;", 2, 5);
        shapeFault("wide 99999999999999999999", 2, 5);
        shapeFault("wide 4294967300;", 2, 5);
        shapeFault("ends 0;", 2, 5);
        shapeFault("ends 6;", 2, 5);
        shapeFault("ends 2; ends 2;", 4, 8);
        shapeFault("upper more;upper", 4, 11);
        shapeFault("wide 4; wide", 4, 8);
        shapeFault("wide 1; wide 4;", 2, 5);
    }

    static void promise4() {
        where = "promise 4";
        HalvingHouse x = of("wide 4;");
        x.put(0, 3);
        due("first", thief(x, "put 1;"), 0);
        due("told(3)", x.told(3), 1);
        due("second", thief(x, " times 99 [ ] "), 1);
        due("third", thief(x, "times 1[times 1[times 1[has((((((1))))));]]]"), 2);
        due("fault", thief(x, "put 1"), -9);
        due("told(3)", x.told(3), 3);
        due("count(1)", x.count(1), 0);
        due("fourth", thief(x, "before i*o+last-many%draw;next 99999;drop 0;"), 3);
        due("fault()", x.fault(), -1);
        due("fifth", thief(x, "put 1;"), -1);
        due("count(1)", x.count(1), 0);
        due("fault()", x.fault(), -1);
        due("told(3)", x.told(3), 4);
        due("fault of a fifth", thief(x, "put;"), -9);
        due("fault()", x.fault(), 3);
        feed(x, "put 1;put 2;");
        due("thief(21)", () -> x.thief(21), ARGUMENT);
        due("thief(-1)", () -> x.thief(-1), ARGUMENT);
        due("count(1)", x.count(1), 20);
        due("houses stay", x.count(2), 1);
        due("thieves are as they were", x.steals(0, 1, 0, 6), 1);
    }

    static void thiefFault(String text, int fault, int place) {
        HalvingHouse x = new HalvingHouse();
        due("thief " + text, thief(x, text), fault - 10);
        due("fault of " + text, x.fault(), place);
        due("told(3) of " + text, x.told(3), 0);
    }

    static void promise4Faults() {
        where = "promise 4, faults";
        thiefFault("", 1, 0);
        thiefFault("   ", 1, 3);
        thiefFault("put", 1, 3);
        thiefFault("put ;", 1, 4);
        thiefFault("put 1", 1, 5);
        thiefFault("put 1 ", 1, 6);
        thiefFault("put 1 2;", 1, 6);
        thiefFault("put 1;]", 1, 6);
        thiefFault("puts 1;", 1, 0);
        thiefFault("putlast;", 1, 0);
        thiefFault("put lasts;", 1, 4);
        thiefFault("put ii;", 1, 4);
        thiefFault("put 1+;", 1, 6);
        thiefFault("put -1;", 1, 4);
        thiefFault("put 1//2;", 1, 5);
        thiefFault("put (1;", 1, 6);
        thiefFault("put 1);", 1, 5);
        thiefFault("put ();", 1, 5);
        thiefFault("times [ ]", 1, 6);
        thiefFault("times 3 put 1;", 1, 8);
        thiefFault("times 3 [ put 1;", 1, 16);
        thiefFault("times 3 [ put 1; ] ]", 1, 19);
        thiefFault("times 3 [ put 1; ];", 1, 18);
        thiefFault("times i [ ]", 1, 6);
        thiefFault("1;", 1, 0);
        thiefFault("times 0 [ ]", 2, 6);
        thiefFault("times 100 [ ]", 2, 6);
        thiefFault("put 100000;", 2, 4);
        thiefFault("put 1+00000100000;", 2, 6);
        thiefFault("put 18446744073709551616;", 2, 4);
        thiefFault("put (100000", 2, 5);
    }

    static void promise4Limits() {
        where = "promise 4, limits";
        thiefFault("times 9[times 9[times 9[ times", 3, 25);
        thiefFault("times 9[times 9[times 9[ timer", 1, 25);
        thiefFault("put 1+(((((( (1", 3, 13);
        String sixty = "has 1;".repeat(60);
        HalvingHouse x = new HalvingHouse();
        due("60 STEPS", thief(x, sixty), 0);
        due("60 calls", x.steals(0, 0, 0, 0), 60);
        due("three times after one another, six ( again", thief(x, "times 2[times 2[times 2[]times 2[]]times 1[]]"
                + "put ((((((1))))))*((((((1))))));"), 1);
        thiefFault(sixty + " has", 3, 361);
        thiefFault(sixty + "times", 3, 360);
        thiefFault(sixty + "was 1;", 1, 360);
        thiefFault(sixty + "]", 1, 360);
        // A times counts as a STEP, and so do those in it.
        String nested = "times 2[" + "has 1;".repeat(59);
        due("59 in a times", thief(x, nested + "]"), 2);
        thiefFault(nested + "has 1;]", 3, nested.length());
        thiefFault(nested + "]put 1;", 3, nested.length() + 1);
        due("a long text", thief(x, "put " + "1+".repeat(247) + "1;"), 3);
        due("its value", x.steals(3, 0, 0, 6), 1);
    }

    static void promise5() {
        where = "promise 5";
        HalvingHouse x = new HalvingHouse();
        due("at first", x.fault(), -1);
        shape(x, "wide 4");
        due("of a SHAPE", x.fault(), 6);
        due("again", x.fault(), 6);
        thief(x, "has 7");
        due("of a THIEF", x.fault(), 5);
        due("refused", () -> x.thief(1), ARGUMENT);
        due("stays", x.fault(), 5);
        thief(x, "has 7;");
        due("without", x.fault(), -1);
        shape(x, "wide 4;upper moor");
        due("later", x.fault(), 13);
        shape(x, "");
        due("of an empty text", x.fault(), -1);
    }

    static void promise6() {
        where = "promise 6";
        HalvingHouse x = of("wide 7;upper less;ends 3;");
        thief(x, "put 1;");
        thief(x, "put 2;");
        due("W", x.told(0), 7);
        due("upper", x.told(1), 0);
        due("E", x.told(2), 3);
        due("THIEVES", x.told(3), 2);
        due("told(4)", () -> x.told(4), ARGUMENT);
        due("told(-1)", () -> x.told(-1), ARGUMENT);
    }

    // ---------------------------------------------------------------- houses

    static void promise7() {
        where = "promise 7";
        HalvingHouse x = of("wide 10;");
        due("new", x.put(0, 5), 1);
        due("there", x.put(0, 5), 0);
        due("another house", x.put(1, 5), 1);
        due("greatest", x.put(0, 1023), 1);
        due("least", x.put(0, 0), 1);
        due("no NUMBER", () -> x.put(0, 1024), ARGUMENT);
        due("below", () -> x.put(0, -1), ARGUMENT);
        due("no house", () -> x.put(4, 5), INDEX);
        due("below", () -> x.put(-1, 5), INDEX);
        due("the house first", () -> x.put(4, -1), INDEX);
        holds(x, 0, "[0, 5, 1023]");
        due("CHANGES", x.of(0, 3), 3);
        // 1,000 CHANGES: 100 put into 1, which go into 0 and from there five times.
        HalvingHouse y = of("wide 10;");
        fill(y, 1, 100, 100);
        for (int i = 0; i < 5; i++) {
            y.joins(0, 1, 0);
            y.joins(0, 1, 2);
        }
        due("1,000", y.of(0, 3), 1000);
        due("no more", y.put(0, 1), -2);
        due("not there", y.of(0, 0), 0);
        due("nothing to drop", y.drop(0, 1), 0);
        due("another house", y.put(1, 1), 1);
        HalvingHouse z = of("wide 10;");
        fill(z, 1, 100, 100);
        fill(z, 0, 100, 100);
        for (int i = 0; i < 4; i++) {
            z.joins(0, 1, 2);
            z.joins(0, 1, 0);
        }
        fill(z, 2, 500, 98);
        z.joins(0, 2, 0);
        due("998", z.of(0, 3), 998);
        due("999th", z.put(0, 1), 1);
        due("1,000th", z.drop(0, 1), 1);
        due("put there", z.put(0, 100), 0);
        due("put", z.put(0, 1), -2);
        due("drop", z.drop(0, 100), -2);
        due("still", z.has(0, 100) ? 1 : 0, 1);
    }

    static void promise8() {
        where = "promise 8";
        HalvingHouse x = of("wide 4;", 3, 15);
        due("not there", x.drop(0, 4), 0);
        due("there", x.drop(0, 3), 1);
        due("gone", x.drop(0, 3), 0);
        due("CHANGES", x.of(0, 3), 3);
        holds(x, 0, "[15]");
        due("no NUMBER", () -> x.drop(0, 16), ARGUMENT);
        due("below", () -> x.drop(0, -1), ARGUMENT);
        due("no house", () -> x.drop(4, 3), INDEX);
        due("no house", () -> x.drop(-1, 99), INDEX);
        due("other house", x.drop(1, 15), 0);
    }

    static void promise9() {
        where = "promise 9";
        HalvingHouse x = of("wide 3;", 0, 7);
        due("least", x.has(0, 0) ? 1 : 0, 1);
        due("greatest", x.has(0, 7) ? 1 : 0, 1);
        due("not there", x.has(0, 3) ? 1 : 0, 0);
        due("other house", x.has(1, 0) ? 1 : 0, 0);
        due("no NUMBER", () -> x.has(0, 8) ? 1 : 0, ARGUMENT);
        due("below", () -> x.has(0, -1) ? 1 : 0, ARGUMENT);
        due("no house", () -> x.has(4, 0) ? 1 : 0, INDEX);
        due("no house", () -> x.has(-1, 0) ? 1 : 0, INDEX);
    }

    static void promise10() {
        where = "promise 10";
        HalvingHouse x = of("wide 16;", 65535, 9, 400);
        x.drop(0, 400);
        due("many", x.of(0, 0), 2);
        due("least", x.of(0, 1), 9);
        due("greatest", x.of(0, 2), 65535);
        due("CHANGES", x.of(0, 3), 4);
        due("empty: many", x.of(1, 0), 0);
        due("empty: least", x.of(1, 1), -1);
        due("empty: greatest", x.of(1, 2), -1);
        due("what", () -> x.of(0, 4), ARGUMENT);
        due("what", () -> x.of(0, -1), ARGUMENT);
        due("house", () -> x.of(4, 0), INDEX);
        due("house", () -> x.of(-1, 9), INDEX);
    }

    static void promise11() {
        where = "promise 11";
        HalvingHouse x = of("wide 4;", 0, 9, 15);
        due("from -1", x.next(0, -1), 0);
        due("above", x.next(0, 0), 9);
        due("between", x.next(0, 8), 9);
        due("at", x.next(0, 9), 15);
        due("at the greatest", x.next(0, 15), -1);
        due("empty", x.next(1, -1), -1);
        due("too low", () -> x.next(0, -2), ARGUMENT);
        due("too high", () -> x.next(0, 16), ARGUMENT);
        due("house", () -> x.next(4, 0), INDEX);
        due("house", () -> x.next(-1, -2), INDEX);
    }

    static void promise12() {
        where = "promise 12";
        HalvingHouse x = of("wide 4;", 0, 9, 15);
        due("from 16", x.before(0, 16), 15);
        due("below", x.before(0, 15), 9);
        due("between", x.before(0, 10), 9);
        due("at", x.before(0, 9), 0);
        due("at the least", x.before(0, 0), -1);
        due("empty", x.before(1, 16), -1);
        due("too low", () -> x.before(0, -1), ARGUMENT);
        due("too high", () -> x.before(0, 17), ARGUMENT);
        due("house", () -> x.before(4, 0), INDEX);
        due("house", () -> x.before(-1, 17), INDEX);
    }

    static void promise13() {
        where = "promise 13";
        HalvingHouse x = of("wide 4;", 7, 2, 11);
        due("0", x.kth(0, 0), 2);
        due("1", x.kth(0, 1), 7);
        due("2", x.kth(0, 2), 11);
        due("3", x.kth(0, 3), -1);
        due("-1", x.kth(0, -1), -1);
        due("far", x.kth(0, Integer.MAX_VALUE), -1);
        due("far", x.kth(0, Integer.MIN_VALUE), -1);
        due("empty", x.kth(2, 0), -1);
        due("house", () -> x.kth(4, 0), INDEX);
        due("house", () -> x.kth(-1, 0), INDEX);
    }

    static void promise14() {
        where = "promise 14";
        HalvingHouse x = of("wide 4;", 0, 5, 9, 15);
        due("all", x.between(0, 0, 15), 4);
        due("both ends", x.between(0, 5, 9), 2);
        due("inside", x.between(0, 6, 8), 0);
        due("one", x.between(0, 9, 9), 1);
        due("none", x.between(0, 8, 8), 0);
        due("a above b", x.between(0, 9, 5), 0);
        due("a above b, next to one another", x.between(0, 9, 8), 0);
        due("a", () -> x.between(0, -1, 9), ARGUMENT);
        due("b", () -> x.between(0, 0, 16), ARGUMENT);
        due("a, b turned", () -> x.between(0, 16, 3), ARGUMENT);
        due("b below", () -> x.between(0, 3, -1), ARGUMENT);
        due("house", () -> x.between(4, 0, 1), INDEX);
        due("house", () -> x.between(-1, 0, 99), INDEX);
    }

    // ---------------------------------------------------------------- touches and cells

    static void promise15Put() {
        where = "promise 15, put";
        HalvingHouse x = of("wide 4;ends 1;");
        due("empty", x.touches(0, 0, 7, 0), 1);
        x.put(0, 5);
        due("one alone", x.touches(0, 0, 7, 0), 1);
        x.put(0, 12);
        due("the least", x.touches(0, 0, 5, 0), 1);
        due("the greatest", x.touches(0, 0, 12, 0), 1);
        due("into an empty LIST", x.touches(0, 0, 9, 0), 3);
        due("the least goes INSIDE", x.touches(0, 0, 2, 0), 3);
        due("the greatest goes INSIDE", x.touches(0, 0, 14, 0), 3);
        x.put(0, 9);
        // INSIDE: 9 = 2,1. Its ROOM has one, so putting there is 1; a LIST of one takes 1, too.
        due("into the ROOM", x.touches(0, 0, 8, 0), 2);
        due("of what is there", x.touches(0, 0, 9, 0), 2);
        due("beside the LIST's only one", x.touches(0, 0, 6, 0), 3);
        x.put(0, 6);
        x.put(0, 0);
        // 0, 5, 6, 9, 12: ROOM 1 has 1 and 2, ROOM 2 has 1. Putting 7 (1,3) sends 2 INSIDE of ROOM 1: 3 there;
        // putting 3 (0,3) puts 0 into the LIST of 1, 2, where 1 goes INSIDE: 3 there, and 1.
        due("deep in a ROOM", x.touches(0, 0, 7, 0), 4);
        due("deep in the LIST", x.touches(0, 0, 3, 0), 5);
        HalvingHouse end = of("wide 4;ends 4;", 1, 2, 3, 4, 5);
        due("an END", end.touches(0, 0, 9, 0), 1);
        due("an END as ROOM", of("wide 4;ends 2;", 0, 5, 6, 15).touches(0, 0, 7, 0), 2);
        HalvingHouse more = of("wide 3;upper more;ends 1;", 0, 2, 7);
        HalvingHouse less = of("wide 3;upper less;ends 1;", 0, 2, 7);
        // more: 2 is 1,0 and 1 is 0,1; less: 2 is 0,2 and 1 is 0,1.
        due("more", more.touches(0, 0, 1, 0), 3);
        due("less", less.touches(0, 0, 1, 0), 2);
    }

    static void promise15Drop() {
        where = "promise 15, drop";
        HalvingHouse x = of("wide 4;", 5);
        due("one alone", x.touches(0, 1, 5, 0), 1);
        x.put(0, 12);
        due("nothing INSIDE", x.touches(0, 1, 5, 0), 1);
        due("nothing INSIDE", x.touches(0, 1, 12, 0), 1);
        due("below", x.touches(0, 1, 4, 0), 1);
        due("above", x.touches(0, 1, 13, 0), 1);
        due("its ROOM is empty", x.touches(0, 1, 9, 0), 1);
        x.put(0, 9);
        due("the least", x.touches(0, 1, 5, 0), 5);
        due("the greatest", x.touches(0, 1, 12, 0), 5);
        due("the ROOM's only one", x.touches(0, 1, 9, 0), 3);
        due("another one in a ROOM of one", x.touches(0, 1, 8, 0), 2);
        x.put(0, 11);
        // ROOM 2 has 1 and 3, with nothing INSIDE.
        due("one of two", x.touches(0, 1, 9, 0), 2);
        due("the least, one of two comes", x.touches(0, 1, 5, 0), 4);
        due("empty house", x.touches(1, 1, 5, 0), 1);
        due("call", () -> x.touches(0, 5, 5, 0), ARGUMENT);
        due("call", () -> x.touches(0, -1, 5, 0), ARGUMENT);
    }

    static void promise15Asking() {
        where = "promise 15, has, next, before";
        HalvingHouse x = of("wide 4;", 2, 5, 9, 11, 14);
        // INSIDE: 5 (1,1), 9 (2,1), 11 (2,3); the LIST is 1, 2.
        due("has the least", x.touches(0, 2, 2, 0), 1);
        due("has below", x.touches(0, 2, 0, 0), 1);
        due("has the greatest", x.touches(0, 2, 14, 0), 1);
        due("has above", x.touches(0, 2, 15, 0), 1);
        due("has, ROOM empty", x.touches(0, 2, 13, 0), 1);
        due("has, ROOM of one", x.touches(0, 2, 6, 0), 2);
        due("has, ROOM of two", x.touches(0, 2, 10, 0), 2);
        due("next, below", x.touches(0, 3, 1, 0), 1);
        due("next, -1", x.touches(0, 3, -1, 0), 1);
        due("next, the greatest", x.touches(0, 3, 14, 0), 1);
        due("next, in the ROOM", x.touches(0, 3, 9, 0), 3);
        due("next, ROOM empty, LIST has one", x.touches(0, 3, 2, 0), 3);
        due("next, ROOM passed, LIST has one", x.touches(0, 3, 5, 0), 4);
        due("next, ROOM passed, LIST has none", x.touches(0, 3, 11, 0), 3);
        due("next, ROOM empty, LIST has none", x.touches(0, 3, 12, 0), 2);
        due("before, above", x.touches(0, 4, 15, 0), 1);
        due("before, 16", x.touches(0, 4, 16, 0), 1);
        due("before, the least", x.touches(0, 4, 2, 0), 1);
        due("before, in the ROOM", x.touches(0, 4, 11, 0), 3);
        due("before, ROOM passed, LIST has one", x.touches(0, 4, 9, 0), 4);
        due("before, ROOM passed, LIST has none", x.touches(0, 4, 5, 0), 3);
        due("before, ROOM empty, LIST has one", x.touches(0, 4, 14, 0), 3);
        due("before, ROOM empty, LIST has none", x.touches(0, 4, 3, 0), 2);
        // 16 bits: the LIST is 1, 2, 3, each of 1 and 2 for two NUMBERS; 300 is 1,44.
        HalvingHouse wide = of("wide 16;", 0, 256, 257, 512, 513, 768, 65535);
        due("next through a LIST", wide.touches(0, 3, 300, 0), 6);
        due("CELLS through a LIST", wide.size(0, 0), 14);
        due("before through a LIST", wide.touches(0, 4, 768, 0), 6);
        due("drop through a LIST", wide.touches(0, 1, 65535, 0), 9);
        HalvingHouse two = of("wide 4;", 2, 14);
        due("next, nothing INSIDE", two.touches(0, 3, 2, 0), 1);
        due("before, nothing INSIDE", two.touches(0, 4, 14, 0), 1);
        due("next above", () -> x.touches(0, 3, 16, 0), ARGUMENT);
        due("next below", () -> x.touches(0, 3, -2, 0), ARGUMENT);
        due("before above", () -> x.touches(0, 4, 17, 0), ARGUMENT);
        due("before below", () -> x.touches(0, 4, -1, 0), ARGUMENT);
        due("has -1", () -> x.touches(0, 2, -1, 0), ARGUMENT);
        due("put 16", () -> x.touches(0, 0, 16, 0), ARGUMENT);
        due("kind", () -> x.touches(0, 0, 1, 3), ARGUMENT);
        due("kind", () -> x.touches(0, 0, 1, -1), ARGUMENT);
        due("house", () -> x.touches(4, 0, 1, 0), INDEX);
        due("house first", () -> x.touches(-1, 9, 99, 9), INDEX);
        due("nothing changed", x.of(0, 3), 5);
    }

    static void promise15OtherKinds() {
        where = "promise 15, BITS and SORTED";
        HalvingHouse x = of("wide 8;", 40, 100, 101);
        for (int call = 0; call < 3; call++) {
            due("one word", x.touches(0, call, 200, 1), 1);
        }
        due("next from -1", x.touches(0, 3, -1, 1), 2);
        due("next from 31: the word of 32", x.touches(0, 3, 31, 1), 1);
        due("next from 40", x.touches(0, 3, 40, 1), 3);
        due("next to the last word", x.touches(0, 3, 101, 1), 5);
        due("next from 254", x.touches(0, 3, 254, 1), 1);
        due("next from 255", x.touches(0, 3, 255, 1), 0);
        due("before from 256", x.touches(0, 4, 256, 1), 5);
        due("before from 64: the word of 63", x.touches(0, 4, 64, 1), 1);
        due("before to the first word", x.touches(0, 4, 40, 1), 2);
        due("before from 0", x.touches(0, 4, 0, 1), 0);
        due("before from 1", x.touches(0, 4, 1, 1), 1);
        HalvingHouse s = of("wide 4;", 5, 9, 12);
        // The SEARCH for 9 touches 9, then 5; for 13 9 and 12; for 3 9 and 5.
        due("has 9", s.touches(0, 2, 9, 2), 3);
        due("has 13", s.touches(0, 2, 13, 2), 2);
        due("put 9", s.touches(0, 0, 9, 2), 3);
        due("put 3", s.touches(0, 0, 3, 2), 2 + 1 + 4);
        due("put 13", s.touches(0, 0, 13, 2), 2 + 0 + 1);
        due("drop 5", s.touches(0, 1, 5, 2), 2 + 1 + 2);
        due("drop 12", s.touches(0, 1, 12, 2), 2 + 1 + 0);
        due("drop 6", s.touches(0, 1, 6, 2), 3);
        due("next 12", s.touches(0, 3, 12, 2), 2);
        due("next -1", s.touches(0, 3, -1, 2), 3);
        due("next 15", s.touches(0, 3, 15, 2), 2);
        due("before 5", s.touches(0, 4, 5, 2), 2);
        due("before 16", s.touches(0, 4, 16, 2), 3);
        due("before 12", s.touches(0, 4, 12, 2), 3);
        due("empty", s.touches(1, 2, 9, 2), 0);
        due("empty put", s.touches(1, 0, 9, 2), 1);
    }

    static void promise16() {
        where = "promise 16";
        HalvingHouse x = of("wide 4;");
        due("empty", x.size(0, 0), 0);
        x.put(0, 5);
        due("one", x.size(0, 0), 2);
        x.put(0, 12);
        due("two", x.size(0, 0), 2);
        x.put(0, 9);
        due("three", x.size(0, 0), 6);
        x.put(0, 11);
        due("two in a ROOM", x.size(0, 0), 6);
        x.put(0, 10);
        due("three in a ROOM, with an END in and an END of a LIST", x.size(0, 0), 8);
        due("END", of("wide 4;ends 4;", 1, 5, 9).size(0, 0), 1);
        due("ENDS inside", of("wide 4;ends 2;", 1, 5, 9, 15).size(0, 0), 5);
        due("row of bits", x.size(0, 1), 1);
        due("row of bits, 5", of("wide 5;").size(0, 1), 1);
        due("row of bits, 6", of("wide 6;").size(0, 1), 2);
        due("row of bits, 16", of("wide 16;").size(3, 1), 2048);
        due("sorted", x.size(0, 2), 5);
        due("sorted, empty", x.size(1, 2), 0);
        due("kind", () -> x.size(0, 3), ARGUMENT);
        due("kind", () -> x.size(0, -1), ARGUMENT);
        due("house", () -> x.size(4, 0), INDEX);
        due("house", () -> x.size(-1, 4), INDEX);
    }

    static void bounds(String text, int... dues) {
        HalvingHouse x = of(text);
        for (int call = 0; call < 5; call++) {
            due("bound(" + call + ") of " + text, x.bound(call), dues[call]);
        }
    }

    static void promise17() {
        where = "promise 17";
        bounds("wide 2;ends 2;", 1, 1, 1, 1, 1);
        bounds("wide 2;", 3, 5, 2, 4, 4);
        bounds("wide 3;", 5, 9, 2, 7, 7);
        bounds("wide 3;upper less;", 4, 8, 3, 6, 6);
        bounds("wide 4;", 5, 9, 3, 7, 7);
        bounds("", 7, 13, 4, 10, 10);
        bounds("wide 16;", 9, 17, 5, 13, 13);
        bounds("wide 16;ends 4;", 5, 9, 3, 7, 7);
        HalvingHouse x = of("");
        due("call", () -> x.bound(5), ARGUMENT);
        due("call", () -> x.bound(-1), ARGUMENT);
    }

    static void promise18() {
        where = "promise 18";
        HalvingHouse x = of("wide 2;");
        due("of none", x.worst(0, 0, 0), 1);
        due("of none, many", x.worst(3, 0, 1), 0);
        due("of none, x", x.worst(4, 0, 2), 0);
        due("put of one", x.worst(0, 1, 0), 1);
        due("put of one is as of none", x.worst(0, 1, 1), 0);
        // {0, 1}: putting 2 sends 1 INSIDE, into an empty LIST.
        due("put of two", x.worst(0, 2, 0), 3);
        due("put of two, many", x.worst(0, 2, 1), 2);
        due("put of two, x", x.worst(0, 2, 2), 2);
        due("put of 16 is as of two", x.worst(0, 16, 1), 2);
        due("drop", x.worst(1, 16, 0), 5);
        due("drop, many", x.worst(1, 16, 1), 3);
        due("drop, x", x.worst(1, 16, 2), 0);
        due("has", x.worst(2, 3, 0), 2);
        due("has, x", x.worst(2, 3, 2), 1);
        due("next", x.worst(3, 4, 0), 4);
        HalvingHouse four = of("wide 4;");
        // 0, 1, 4, 8 and put 9: 8 goes INSIDE, 2 into the LIST of 0, 1, where 1 goes INSIDE.
        due("put of 4 bits", four.worst(0, 16, 0), 5);
        due("put of 4 bits, many", four.worst(0, 16, 1), 4);
        due("put of 4 bits, x", four.worst(0, 16, 2), 9);
        due("put of three", four.worst(0, 3, 0), 3);
        due("drop of 4 bits", four.worst(1, 16, 0), 9);
        due("drop of 4 bits, many", four.worst(1, 5, 1), 5);
        due("next of 4 bits", four.worst(3, 16, 0), 7);
        due("next of 4 bits, x", four.worst(3, 6, 2), 4);
        due("before of 4 bits, x", four.worst(4, 6, 2), 8);
        HalvingHouse six = of("wide 6;");
        due("drop of three", six.worst(1, 3, 0), 5);
        due("put of three", six.worst(0, 3, 1), 2);
        due("n", () -> six.worst(0, 4, 0), ARGUMENT);
        due("n", () -> x.worst(0, 17, 0), ARGUMENT);
        due("n", () -> x.worst(0, -1, 0), ARGUMENT);
        due("what", () -> x.worst(0, 1, 3), ARGUMENT);
        due("what", () -> x.worst(0, 1, -1), ARGUMENT);
        due("call", () -> x.worst(5, 1, 0), ARGUMENT);
        due("call", () -> x.worst(-1, 1, 0), ARGUMENT);
        HalvingHouse seven = of("wide 7;");
        due("W", () -> seven.worst(0, 1, 0), ARGUMENT);
        due("five takes 3", of("wide 5;").worst(2, 3, 0), 2);
        // A new SHAPE is asked anew.
        shape(x, "wide 2;ends 2;");
        due("an END", x.worst(1, 16, 0), 1);
    }

    static void promise19() {
        where = "promise 19";
        HalvingHouse x = of("wide 2;");
        due("put 0", x.bad(0, 2, 0), 0);
        due("put 1", x.bad(0, 2, 1), 1);
        due("put 2", x.bad(0, 2, 2), -1);
        due("drop 2", x.bad(1, 5, 2), 2);
        due("of none", x.bad(1, 1, 0), -1);
        due("k", x.bad(0, 2, -1), -1);
        due("k", x.bad(0, 2, Integer.MAX_VALUE), -1);
        due("n", () -> x.bad(0, 17, 0), ARGUMENT);
        due("n", () -> x.bad(0, -1, 0), ARGUMENT);
        due("call", () -> x.bad(5, 1, 0), ARGUMENT);
        HalvingHouse seven = of("wide 7;");
        due("W", () -> seven.bad(0, 1, 0), ARGUMENT);
        HalvingHouse four = of("wide 4;");
        int[] next = {0, 1, 4, 8, 12, 13, -1};
        for (int k = 0; k < next.length; k++) {
            due("next of 4 bits", four.bad(3, 16, k), next[k]);
        }
        HalvingHouse five = of("wide 5;");
        due("n of 5", () -> five.bad(0, 4, 0), ARGUMENT);
        due("has of 5, 2", five.bad(2, 3, 2), 2);
    }

    // ---------------------------------------------------------------- the past

    static HalvingHouse withPast() {
        // Times: 1 put 5, 2 put 9, 3 drop 5, 4 put 2, 5 put 5, 6 drop 9.
        HalvingHouse x = of("wide 4;", 5, 9, 5);
        x.drop(0, 7);
        x.drop(0, 5);
        x.put(0, 2);
        x.put(0, 5);
        x.drop(0, 9);
        return x;
    }

    static void promise20() {
        where = "promise 20";
        HalvingHouse x = withPast();
        due("0 many", x.was(0, 0, 0), 0);
        due("0 least", x.was(0, 0, 1), -1);
        due("0 greatest", x.was(0, 0, 2), -1);
        due("2 many", x.was(0, 2, 0), 2);
        due("2 least", x.was(0, 2, 1), 5);
        due("2 greatest", x.was(0, 2, 2), 9);
        due("3 least", x.was(0, 3, 1), 9);
        due("4 least", x.was(0, 4, 1), 2);
        due("6 many", x.was(0, 6, 0), 2);
        due("6 greatest", x.was(0, 6, 2), 5);
        due("7", () -> x.was(0, 7, 0), ARGUMENT);
        due("-1", () -> x.was(0, -1, 0), ARGUMENT);
        due("what", () -> x.was(0, 0, 3), ARGUMENT);
        due("what", () -> x.was(0, 0, -1), ARGUMENT);
        due("other house", () -> x.was(1, 1, 0), ARGUMENT);
        due("house", () -> x.was(4, 0, 0), INDEX);
        due("house", () -> x.was(-1, 99, 0), INDEX);
        holds(x, 0, "[2, 5]");
    }

    static void promise21() {
        where = "promise 21";
        HalvingHouse x = withPast();
        due("has at 0", x.asked(0, 0, 2, 5), 0);
        due("has at 1", x.asked(0, 1, 2, 5), 1);
        due("has at 3", x.asked(0, 3, 2, 5), 0);
        due("has at 5", x.asked(0, 5, 2, 5), 1);
        due("next at 2", x.asked(0, 2, 3, 5), 9);
        due("next at 2 from -1", x.asked(0, 2, 3, -1), 5);
        due("next at 6", x.asked(0, 6, 3, 5), -1);
        due("before at 5", x.asked(0, 5, 4, 9), 5);
        due("before at 4", x.asked(0, 4, 4, 9), 2);
        due("before at 5 from 16", x.asked(0, 5, 4, 16), 9);
        due("before at 1", x.asked(0, 1, 4, 5), -1);
        due("t", () -> x.asked(0, 7, 2, 5), ARGUMENT);
        due("t", () -> x.asked(0, -1, 2, 5), ARGUMENT);
        due("call 1", () -> x.asked(0, 1, 1, 5), ARGUMENT);
        due("call 0", () -> x.asked(0, 1, 0, 5), ARGUMENT);
        due("call 5", () -> x.asked(0, 1, 5, 5), ARGUMENT);
        due("has -1", () -> x.asked(0, 1, 2, -1), ARGUMENT);
        due("has 16", () -> x.asked(0, 1, 2, 16), ARGUMENT);
        due("next 16", () -> x.asked(0, 1, 3, 16), ARGUMENT);
        due("next -2", () -> x.asked(0, 1, 3, -2), ARGUMENT);
        due("before -1", () -> x.asked(0, 1, 4, -1), ARGUMENT);
        due("before 17", () -> x.asked(0, 1, 4, 17), ARGUMENT);
        due("house", () -> x.asked(4, 1, 4, 17), INDEX);
        due("house", () -> x.asked(-1, 1, 4, 1), INDEX);
        due("CHANGES", x.of(0, 3), 6);
    }

    static void promise22() {
        where = "promise 22";
        HalvingHouse x = withPast();
        due("5 came", x.since(0, 5, 0), 5);
        due("5 went", x.since(0, 5, 1), 3);
        due("9 came", x.since(0, 9, 0), 2);
        due("9 went", x.since(0, 9, 1), 6);
        due("2 went", x.since(0, 2, 1), -1);
        due("7 came", x.since(0, 7, 0), -1);
        due("7 went", x.since(0, 7, 1), -1);
        due("other house", x.since(1, 5, 0), -1);
        due("what", () -> x.since(0, 5, 2), ARGUMENT);
        due("what", () -> x.since(0, 5, -1), ARGUMENT);
        due("x", () -> x.since(0, 16, 0), ARGUMENT);
        due("x", () -> x.since(0, -1, 0), ARGUMENT);
        due("house", () -> x.since(4, 16, 0), INDEX);
        due("house", () -> x.since(-1, 1, 0), INDEX);
    }

    static void promise23() {
        where = "promise 23";
        HalvingHouse x = of("wide 4;ends 2;");
        due("none", x.room(0, 0), 0);
        due("none", x.room(0, 1), 0);
        x.put(0, 5);
        x.put(0, 9);
        due("two puts", x.room(0, 0), 2);
        x.put(0, 12);
        due("the third", x.room(0, 0), 5);
        x.put(0, 12);
        x.drop(0, 1);
        due("no CHANGE, nothing", x.room(0, 0), 5);
        x.drop(0, 5);
        due("drop", x.room(0, 0), 10);
        due("notes", x.room(0, 1), 4);
        x.touches(0, 0, 3, 0);
        due("asking takes none", x.room(0, 0), 10);
        due("other house", x.room(1, 0), 0);
        x.joins(1, 0, 0);
        due("joined", x.room(1, 0), 2);
        due("joined, notes", x.room(1, 1), 2);
        due("what", () -> x.room(0, 2), ARGUMENT);
        due("what", () -> x.room(0, -1), ARGUMENT);
        due("house", () -> x.room(4, 0), INDEX);
        due("house", () -> x.room(-1, 2), INDEX);
    }

    // ---------------------------------------------------------------- houses together

    static void promise24() {
        where = "promise 24";
        HalvingHouse x = of("wide 4;ends 2;", 9, 12);
        x.put(1, 9);
        x.put(1, 1);
        // 1 is 1, 9: putting 9 takes 1, putting 12 sends 9 INSIDE: 3.
        due("JOIN", x.joins(1, 0, 0), 4);
        holds(x, 1, "[1, 9, 12]");
        holds(x, 0, "[9, 12]");
        due("CHANGES", x.of(1, 3), 3);
        // Dropping 9 from INSIDE: 1, its ROOM 1, the LIST 1; then 12 of two: 1.
        due("PART", x.joins(1, 0, 2), 4);
        holds(x, 1, "[1]");
        due("PART of what is not there", x.joins(1, 0, 2), 2);
        due("CHANGES", x.of(1, 3), 5);
        due("MEET", x.joins(1, 0, 1), 1);
        holds(x, 1, "[]");
        due("MEET of an empty one", x.joins(1, 0, 1), 0);
        due("JOIN with an empty one", x.joins(0, 1, 0), 0);
        due("PART with an empty one", x.joins(0, 1, 2), 0);
        due("JOIN of an empty one", x.joins(2, 0, 0), 2);
        x.put(2, 3);
        x.put(2, 15);
        // 3, 9, 12, 15 met with 9, 12: 3 goes (2 and 1, 9 comes: 1, the LIST of two ENDS 1), then 15 likewise.
        due("MEET keeps what both have", x.joins(2, 0, 1), 10);
        holds(x, 2, "[9, 12]");
        due("how", () -> x.joins(0, 1, 3), ARGUMENT);
        due("how", () -> x.joins(0, 1, -1), ARGUMENT);
        due("one", () -> x.joins(1, 1, 0), ARGUMENT);
        due("a", () -> x.joins(4, 1, 0), INDEX);
        due("b", () -> x.joins(1, -1, 0), INDEX);
        due("both", () -> x.joins(4, 4, 9), INDEX);
    }

    static void promise24Limits() {
        where = "promise 24, limits";
        HalvingHouse x = of("wide 12;");
        fill(x, 1, 0, 150);
        for (int i = 0; i < 3; i++) {
            x.joins(0, 1, 0);
            x.joins(0, 1, 2);
        }
        due("900", x.of(0, 3), 900);
        due("150 more", x.joins(0, 1, 0), -2);
        holds(x, 0, "[]");
        due("CHANGES", x.of(0, 3), 900);
        due("ROOM", x.room(0, 1), 900);
        fill(x, 2, 0, 100);
        due("100 more", x.joins(0, 2, 0) > 0 ? 1 : 0, 1);
        due("1,000", x.of(0, 3), 1000);
        due("nothing new", x.joins(0, 2, 0) > 0 ? 1 : 0, 1);
        due("all would go", x.joins(0, 2, 2), -2);
        due("all would go", x.joins(0, 3, 1), -2);
        due("none would go", x.joins(0, 2, 1), 0);
        due("none would go", x.joins(0, 3, 2), 0);
        x.put(3, 4000);
        due("one is not there", x.joins(0, 3, 2), 1);
        due("one would come", x.joins(0, 3, 0), -2);
        due("many", x.of(0, 0), 100);
        // Those that are there do not count: 999 CHANGES, and one new.
        HalvingHouse y = of("wide 12;");
        fill(y, 1, 0, 111);
        fill(y, 0, 0, 111);
        for (int i = 0; i < 4; i++) {
            y.joins(0, 1, 2);
            y.joins(0, 1, 0);
        }
        due("999", y.of(0, 3), 999);
        y.put(1, 2000);
        due("one new", y.joins(0, 1, 0) > 0 ? 1 : 0, 1);
        due("1,000", y.of(0, 3), 1000);
    }

    static void promise25() {
        where = "promise 25";
        HalvingHouse x = of("wide 4;", 1, 2, 5, 9, 14);
        due("empty other", x.runs(0, 1), 1);
        due("both empty", x.runs(2, 3), 0);
        due("one", x.runs(0, 0), 0);
        x.put(1, 3);
        x.put(1, 5);
        x.put(1, 10);
        // 1 2 | 3 | (5 aside) 9 | 10 | 14
        due("runs", x.runs(0, 1), 5);
        due("turned", x.runs(1, 0), 5);
        x.drop(1, 3);
        // 1 2 9 | 10 | 14
        due("what both have does not part", x.runs(0, 1), 3);
        x.joins(1, 0, 0);
        due("all but one in both", x.runs(0, 1), 1);
        due("a", () -> x.runs(4, 0), INDEX);
        due("b", () -> x.runs(0, -1), INDEX);
        due("a and b", () -> x.runs(7, 7), INDEX);
    }

    // ---------------------------------------------------------------- thieves

    static void stolen(HalvingHouse x, String text, int house, int seed, int... dues) {
        int number = thief(x, text);
        for (int what = 0; what < dues.length; what++) {
            due("steals " + what + " of " + text, x.steals(number, house, seed, what), dues[what]);
        }
    }

    static void promise26() {
        where = "promise 26";
        HalvingHouse x = of("wide 4;ends 2;", 5, 9);
        // put 12 (HALVES 3; a word; SEARCH 1, none there, 1 more), next 5 (3; 1; 2 and 1), drop 5 (5; 1; 2, 1, 2 more),
        // before 4 (1; 1; 2, none there), has 9 (1; 1; 2 and 1).
        stolen(x, "put 12; next 5; drop 5; before last+3; has 9;", 0, 1, 5, 13, 5, 2, 5, 15, 2);
        holds(x, 0, "[5, 9]");
        due("no CHANGE", x.of(0, 3), 2);
        stolen(x, "times 7 [ ]", 0, 1, 0, 0, 0, -1, 0, 0, 2);
        stolen(x, "has 1; has 1;", 1, 1, 2, 2, 1, 0, 2, 0, 0);
        due("what", () -> x.steals(0, 0, 1, 7), ARGUMENT);
        due("what", () -> x.steals(0, 0, 1, -1), ARGUMENT);
        due("thief", () -> x.steals(3, 0, 1, 0), ELEMENT);
        due("thief", () -> x.steals(-1, 0, 1, 9), ELEMENT);
        due("house", () -> x.steals(0, 4, 1, 0), INDEX);
        due("house", () -> x.steals(0, -1, 1, 0), INDEX);
        due("house first", () -> x.steals(9, 4, 1, 9), INDEX);
        // What was stolen before is stolen anew from what has changed.
        due("2 by now", x.steals(2, 0, 1, 6), 2);
        x.drop(0, 9);
        due("1 behind a drop", x.steals(2, 0, 1, 6), 1);
        x.put(3, 1);
        x.put(3, 2);
        due("1 still", x.steals(2, 0, 1, 6), 1);
        x.joins(0, 3, 0);
        due("3 behind a JOIN", x.steals(2, 0, 1, 6), 3);
        x.split(0, 1, 2);
        due("1 behind a SPLIT", x.steals(2, 0, 1, 6), 1);
        due("2 in another house", x.steals(2, 1, 1, 6), 2);
        // A THIEF stays over a new SHAPE, and goes by it.
        due("12 of four bits, SORTED", x.steals(0, 2, 1, 5), 1 + 2 + 2 + 1 + 2);
        shape(x, "wide 2;");
        due("12 is 0 in two bits", x.steals(0, 2, 1, 5), 1 + 1 + 1 + 2 + 1);
        x.put(0, 3);
        due("asked again behind a put", x.steals(0, 0, 1, 6), 2);
    }

    /** What a THIEF leaves in an empty house of 16 bits: so many, and none if these are dropped at the end. */
    static void puts(String text, int seed, int... dues) {
        HalvingHouse x = of("wide 16;");
        StringBuilder drops = new StringBuilder(text);
        for (int number : dues) {
            drops.append("drop ").append(number).append(';');
        }
        thief(x, text);
        thief(x, drops.toString());
        due("NUMBERS of " + text, x.steals(0, 0, seed, 6), dues.length);
        due("other NUMBERS than those due of " + text, x.steals(1, 0, seed, 6), 0);
    }

    static void promise26Reckoning() {
        where = "promise 26, reckoning";
        puts("put 2+3*4;", 0, 14);
        puts("put (2+3)*4;", 0, 20);
        puts("put 20-5-3;", 0, 12);
        puts("put 100%7*3;", 0, 6);
        puts("put 2*100%7;", 0, 4);
        puts("put 7%0;", 0, 0);
        puts("put 7%(3-3)+5;", 0, 5);
        puts("put 0-1;", 0, 65535);
        puts("put (0-7)%4+10;", 0, 7);
        puts("put 7%(0-4);", 0, 3);
        puts("put (0-99999*21474-83648+25126)%(0-1);", 0, 0);
        // 99999 * 99999 is 9999800001, wraps to 1409865409, whose lowest 16 bits are 49217.
        puts("put 99999*99999;", 0, 1409865409 & 65535);
        // 1409865409 % 1000: the wrapped number counts, not the whole one.
        puts("put 99999*99999%1000;", 0, 409);
        puts("put 65537;", 0, 1);
        puts("times 3 [ put i; ] put i+9;", 0, 0, 1, 2, 9);
        puts("times 2 [ times 3 [ put 10*o+i; ] ]", 0, 0, 1, 2, 10, 11, 12);
        puts("times 2 [ put o+50; times 2 [ times 2 [ put 100+10*o+i; ] put 200+10*o+i; ] put 300+i; ]", 0,
                50, 100, 101, 110, 111, 200, 201, 210, 211, 300, 301);
        puts("put last+5; put last+5; put 5; put last+5;", 0, 5, 6);
        puts("put 9; next 3; put last+1; next 10; put last+2; has 9; put last+20; before 10; put last+30;", 0,
                1, 9, 10, 21, 39);
        puts("put 7; drop 7; put last+30; drop 7; put last+40;", 0, 31, 40);
        puts("put many; put many; put many; drop 1; put 100+many;", 0, 0, 2, 102);
        // SEED 1 becomes 1103527590.
        int first = 1 * 1103515245 + 12345;
        int second = first * 1103515245 + 12345;
        puts("put draw; put draw;", 1, first >>> 8 & 65535, second >>> 8 & 65535);
        due("the first DRAW by hand", first >>> 8 & 65535, 1103527590 / 256 % 65536);
        puts("put draw*0+draw;", 1, second >>> 8 & 65535);
        int low = -7 * 1103515245 + 12345;
        puts("put draw;", -7, low >>> 8 & 65535);
        HalvingHouse x = of("wide 3;");
        thief(x, "put draw%8;put draw;");
        x.put(0, (first >>> 8 & 65535) % 8);
        x.put(0, (second >>> 8 & 65535) % 8);
        due("below 2 to the W", x.steals(0, 0, 1, 6), x.of(0, 0));
    }

    static void promise26Ends() {
        where = "promise 26, ends";
        HalvingHouse x = of("wide 16;");
        thief(x, "times 99 [ times 99 [ put 100*o+i; ] ]");
        due("calls", x.steals(0, 0, 0, 0), 2000);
        due("NUMBERS", x.steals(0, 0, 0, 6), 2000);
        thief(x, "times 99 [ times 20 [ put 100*o+i; ] ] times 99 [ has 7; ]");
        due("not behind", x.steals(1, 0, 0, 0), 2000);
        due("NUMBERS", x.steals(1, 0, 0, 6), 1980);
        fill(x, 1, 60000, 200);
        due("ahead of a put at 2,000", x.steals(0, 1, 0, 0), 1800);
        due("NUMBERS", x.steals(0, 1, 0, 6), 2000);
        thief(x, "times 99 [ times 99 [ put 100*o+i; has 1; ] ]");
        due("1,000 puts and as many asked", x.steals(2, 1, 0, 6), 1200);
        due("calls", x.steals(2, 1, 0, 0), 2000);
        thief(x, "times 20 [ times 90 [ put 100*o+i; ] ] has 1; drop 1; put 1; put 1; has 1;");
        due("a put of what is there ends it, too", x.steals(3, 1, 0, 0), 1803);
        // 99 * 99 * 99 rounds without a call do nothing.
        HalvingHouse y = of("wide 4;");
        thief(y, "times 99[times 99[times 99[]]] put 3; times 99[times 99[]times 99[]times 99[]]");
        due("empty rounds", y.steals(0, 0, 0, 0), 1);
        thief(y, "times 2[times 3[] put i+o; times 2[ put 10+o; ] ]");
        due("rounds beside empty ones", y.steals(1, 0, 0, 6), 4);
        due("rounds beside empty ones", y.steals(1, 0, 0, 0), 6);
    }

    // ---------------------------------------------------------------- reached, rows

    static void promise27() {
        where = "promise 27";
        HalvingHouse x = of("wide 2;");
        due("put", x.reached(0), 2);
        due("drop", x.reached(1), 3);
        due("has", x.reached(2), 3);
        due("next", x.reached(3), 4);
        due("before", x.reached(4), 4);
        due("an END", of("wide 5;ends 5;").reached(1), 0);
        HalvingHouse six = of("wide 6;ends 5;");
        due("next of 6 bits", six.reached(3), -1);
        due("drop of 6 bits", six.reached(1), 3);
        due("call", () -> x.reached(5), ARGUMENT);
        due("call", () -> x.reached(-1), ARGUMENT);
        HalvingHouse seven = of("wide 7;ends 5;");
        due("W", () -> seven.reached(0), ARGUMENT);
    }

    static void promise28() {
        where = "promise 28";
        HalvingHouse x = of("wide 2;");
        due("1", x.row(1), 1);
        due("2", x.row(2), 2);
        due("3", x.row(3), 5);
        due("4", x.row(4), 10);
        due("6", x.row(6), 18);
        due("5 behind 6", x.row(5), 13);
        due("0", () -> x.row(0), ARGUMENT);
        due("7", () -> x.row(7), ARGUMENT);
        HalvingHouse five = of("wide 5;");
        due("2 of 5", five.row(2), 2);
        due("3 of 5", () -> five.row(3), ARGUMENT);
        HalvingHouse seven = of("wide 7;");
        due("W", () -> seven.row(1), ARGUMENT);
        due("ENDS", of("wide 4;ends 5;").row(6), 6);
        due("a house does not matter", of("wide 2;", 0, 1, 2).row(1), 1);
        shape(x, "wide 3;");
        due("a new SHAPE", x.row(6), 22);
    }

    static void rowIs(String text, int... dues) {
        HalvingHouse x = of(text);
        for (int k = 0; k < dues.length; k++) {
            due("rowCall " + k + " of " + text, x.rowCall(dues.length, k), dues[k]);
        }
    }

    static void promise29() {
        where = "promise 29";
        rowIs("wide 2;", 0);
        rowIs("wide 2;", 0, 0);
        // put 0, put 1, put 2: 1, 1, 3; then drop 0: 5.
        rowIs("wide 2;", 0, 1, 2);
        rowIs("wide 2;", 0, 1, 2, 100);
        // put 3 sends 2 INSIDE, beside 1: 3, as much as a put behind the drop.
        rowIs("wide 2;", 0, 1, 2, 3, 100);
        rowIs("wide 6;", 0, 0);
        rowIs("wide 4;ends 4;", 0, 0, 0, 0, 0, 0);
        HalvingHouse x = of("wide 2;");
        due("k", x.rowCall(3, 3), -1);
        due("k", x.rowCall(3, -1), -1);
        due("longer", x.rowCall(4, 3), 100);
        due("shorter again", x.rowCall(3, 2), 2);
        due("n", () -> x.rowCall(0, 0), ARGUMENT);
        due("n", () -> x.rowCall(7, 0), ARGUMENT);
        HalvingHouse five = of("wide 5;");
        due("n of 5", () -> five.rowCall(3, 0), ARGUMENT);
        HalvingHouse seven = of("wide 7;");
        due("W", () -> seven.rowCall(1, 0), ARGUMENT);
    }

    static void promise30() {
        where = "promise 30";
        HalvingHouse x = of("wide 4;ends 2;", 1, 5, 9, 12);
        x.put(1, 9);
        // Dropping 5 (INSIDE, its ROOM's only one: 3), 9 (3), 12 (1 of two); putting 5 (1 alone), 9 (1), 12 (3).
        due("split", x.split(0, 1, 5), 3 + 3 + 1 + 1 + 1 + 3);
        holds(x, 0, "[1]");
        holds(x, 1, "[5, 9, 12]");
        due("CHANGES of a", x.of(0, 3), 7);
        due("CHANGES of b", x.of(1, 3), 3);
        due("ROOM of a", x.room(0, 0), 1 + 1 + 3 + 3 + 3 + 3 + 1);
        due("none from there on", x.split(0, 1, 2), 0);
        due("all", x.split(0, 2, 0), 2);
        holds(x, 0, "[]");
        due("of an empty one", x.split(0, 2, 15), 0);
        due("one", () -> x.split(1, 1, 3), ARGUMENT);
        due("x", () -> x.split(0, 1, 16), ARGUMENT);
        due("x", () -> x.split(0, 1, -1), ARGUMENT);
        due("a", () -> x.split(4, 1, 3), INDEX);
        due("b", () -> x.split(0, -1, 3), INDEX);
        due("both", () -> x.split(4, 4, 99), INDEX);
        // 1,000 CHANGES of either.
        HalvingHouse y = of("wide 12;");
        fill(y, 1, 0, 200);
        for (int i = 0; i < 2; i++) {
            y.joins(0, 1, 0);
            y.joins(0, 1, 2);
        }
        y.joins(0, 1, 0);
        due("1,000", y.of(0, 3), 1000);
        due("from it", y.split(0, 2, 0), -2);
        due("from it, nothing", y.split(0, 2, 4000), 0);
        fill(y, 2, 100, 60);
        due("into it, all there", y.split(2, 0, 100) > 0 ? 1 : 0, 1);
        due("gone", y.of(2, 0), 0);
        y.put(2, 3000);
        due("into it", y.split(2, 0, 0), -2);
        holds(y, 2, "[3000]");
        due("still", y.of(0, 0), 200);
        due("CHANGES", y.of(2, 3), 121);
    }

    static void promise31() {
        where = "promise 31";
        HalvingHouse x = of("wide 4;", 1, 4, 5, 8);
        due("gap", x.gap(0, 0), 3);
        due("the first", x.gap(0, 1), 1);
        x.put(0, 15);
        due("gap", x.gap(0, 0), 7);
        due("behind", x.gap(0, 1), 8);
        x.put(1, 0);
        due("one", x.gap(1, 0), -1);
        due("one", x.gap(1, 1), -1);
        x.put(1, 15);
        due("two", x.gap(1, 0), 15);
        due("from 0", x.gap(1, 1), 0);
        due("empty", x.gap(2, 0), -1);
        due("what", () -> x.gap(0, 2), ARGUMENT);
        due("what", () -> x.gap(2, -1), ARGUMENT);
        due("house", () -> x.gap(4, 0), INDEX);
        due("house", () -> x.gap(-1, 2), INDEX);
    }

    static void promise32() {
        where = "promise 32";
        HalvingHouse x = of("wide 4;ends 2;", 2, 7, 12);
        thief(x, "drop draw;");
        // drop of 2 or 12 takes 5, of 7 3, of another one in 4 to 7 2, else 1.
        int[] takes = {1, 1, 5, 1, 2, 2, 2, 3, 1, 1, 1, 1, 5, 1, 1, 1};
        for (int s : new int[] {0, 5, -3, 1000, Integer.MAX_VALUE - 2}) {
            for (int m : new int[] {1, 2, 7, 20}) {
                int best = 0;
                int most = 0;
                for (int i = 0; i < m; i++) {
                    int drawn = ((s + i) * 1103515245 + 12345 >>> 8 & 65535) % 16;
                    if (takes[drawn] > most) {
                        most = takes[drawn];
                        best = i;
                    }
                }
                due("seed of " + s + ", " + m, x.seeds(0, 0, s, m, 0), best);
                due("TOUCHES of " + s + ", " + m, x.seeds(0, 0, s, m, 1), most);
            }
        }
        thief(x, "has 7; drop 2;");
        due("without a draw", x.seeds(1, 0, 9, 20, 0), 0);
        due("without a draw", x.seeds(1, 0, 9, 20, 1), 5);
        thief(x, "times 3 [ ]");
        due("without a call", x.seeds(2, 0, 9, 3, 0), 0);
        due("without a call", x.seeds(2, 0, 9, 3, 1), 0);
        due("m", () -> x.seeds(0, 0, 1, 0, 0), ARGUMENT);
        due("m", () -> x.seeds(0, 0, 1, 21, 0), ARGUMENT);
        due("what", () -> x.seeds(0, 0, 1, 1, 2), ARGUMENT);
        due("what", () -> x.seeds(0, 0, 1, 1, -1), ARGUMENT);
        due("thief", () -> x.seeds(3, 0, 1, 0, 0), ELEMENT);
        due("thief", () -> x.seeds(-1, 0, 1, 1, 0), ELEMENT);
        due("house", () -> x.seeds(9, 4, 1, 0, 0), INDEX);
        due("house", () -> x.seeds(0, -1, 1, 1, 0), INDEX);
        due("no CHANGE", x.of(0, 3), 3);
    }

    // ---------------------------------------------------------------- images, counts

    static void promise33And34() {
        where = "promises 33, 34";
        HalvingHouse x = of("wide 4;", 3, 9);
        due("restore of none", x.restore(), -1);
        due("first", x.image(), 1);
        x.put(0, 5);
        x.drop(0, 3);
        x.put(1, 7);
        due("second", x.image(), 2);
        x.joins(0, 1, 0);
        x.split(0, 3, 6);
        due("third", x.image(), 3);
        due("fourth", x.image(), -1);
        x.drop(0, 5);
        due("to the third", x.restore(), 2);
        holds(x, 0, "[5]");
        holds(x, 3, "[7, 9]");
        due("third again", x.image(), 3);
        due("at once", x.restore(), 2);
        due("to the second", x.restore(), 1);
        holds(x, 0, "[5, 9]");
        holds(x, 1, "[7]");
        holds(x, 3, "[]");
        due("CHANGES", x.of(0, 3), 4);
        due("the PAST", x.was(0, 3, 0), 3);
        due("no later PAST", () -> x.was(0, 5, 0), ARGUMENT);
        due("went", x.since(0, 3, 1), 4);
        due("never came", x.since(0, 7, 0), -1);
        x.put(0, 0);
        due("came", x.since(0, 0, 0), 5);
        due("to the first", x.restore(), 0);
        holds(x, 0, "[3, 9]");
        holds(x, 1, "[]");
        due("ROOM", x.room(0, 0), 2);
        due("CHANGES", x.of(0, 3), 2);
        due("none left", x.restore(), -1);
        // What is no house stays: the TAPE, THIEVES, refusals.
        x.image();
        feed(x, "has 1;");
        due("refused", () -> x.of(4, 0), INDEX);
        x.restore();
        due("TAPE", x.count(1), 20);
        due("refusals", x.status(0), 1);
        due("THIEF", x.thief(6), 0);
        // CHANGES given back can be made again.
        HalvingHouse y = of("wide 10;");
        fill(y, 1, 0, 100);
        y.image();
        for (int i = 0; i < 5; i++) {
            y.joins(0, 1, 0);
            y.joins(0, 1, 2);
        }
        due("no more", y.put(0, 1), -2);
        y.restore();
        due("again", y.put(0, 1), 1);
        due("CHANGES", y.of(0, 3), 1);
        thief(y, "has 1;");
        due("stolen ahead", y.steals(0, 0, 0, 6), 1);
        y.image();
        y.put(0, 2);
        due("stolen behind", y.steals(0, 0, 0, 6), 2);
        y.restore();
        due("stolen then", y.steals(0, 0, 0, 6), 1);
    }

    static void promise35() {
        where = "promise 35";
        HalvingHouse x = of("wide 4;");
        due("index", () -> x.put(4, 99), INDEX);
        due("index", () -> x.runs(0, 4), INDEX);
        due("index", () -> x.steals(0, 5, 0, 0), INDEX);
        due("element", () -> x.steals(0, 0, 0, 9), ELEMENT);
        due("element", () -> x.seeds(4, 0, 0, 0, 0), ELEMENT);
        due("argument", () -> x.put(0, 16), ARGUMENT);
        due("0", x.status(0), 3);
        due("1", x.status(1), 2);
        due("2", x.status(2), 1);
        due("3", x.status(3), -1);
        due("-1", x.status(-1), -1);
        due("far", x.status(Integer.MIN_VALUE), -1);
        // Answers below 0 are no refusals.
        x.restore();
        x.drop(0, 3);
        x.kth(0, 9);
        thief(x, "put");
        due("2", x.status(2), 1);
        shape(x, "wide 5;");
        due("stays over a SHAPE", x.status(0), 3);
        x.image();
        due("argument", () -> x.told(7), ARGUMENT);
        x.restore();
        due("no IMAGE keeps it", x.status(2), 2);
    }

    static void promise36() {
        where = "promise 36";
        HalvingHouse x = of("wide 4;", 1, 2);
        x.put(3, 2);
        x.put(2, 9);
        x.image();
        x.image();
        x.feed(0, 0, 0, 0, 0);
        x.feed(0, 0, 0, 0, 0);
        due("IMAGES", x.count(0), 2);
        due("bytes", x.count(1), 40);
        due("NUMBERS", x.count(2), 4);
        due("3", x.count(3), -1);
        due("-1", x.count(-1), -1);
        x.restore();
        x.drop(0, 1);
        due("IMAGES", x.count(0), 1);
        due("NUMBERS", x.count(2), 3);
        due("status", x.status(2), 0);
    }
}
