import java.util.NoSuchElementException;

/**
 * What the tests by sentence share: each test has the words of the document that it is about, an object or several of
 * its own, and counts as wrong if an answer is not the one that is due, if it throws, or if it asks nothing.
 */
abstract class Sentences {
    static final int INDEX = -100;
    static final int ELEMENT = -101;
    static final int ARGUMENT = -102;
    static final int PUT = 0;
    static final int DROP = 1;
    static final int HAS = 2;
    static final int NEXT = 3;
    static final int BEFORE = 4;

    private static String words = "";
    private static int sentences;
    private static int asked;
    private static int wrong;

    interface Body {
        void run();
    }

    interface Asking {
        int ask();
    }

    static void sentence(String ofTheDocument, Body body) {
        words = ofTheDocument;
        sentences++;
        int before = asked;
        try {
            body.run();
        } catch (RuntimeException e) {
            tellWrong("threw " + e);
        }
        if (asked == before) {
            tellWrong("asked nothing");
        }
    }

    /** To be called at the end of each main. */
    static void end(String name) {
        System.out.println(name + ": " + sentences + " sentences, " + asked + " answers, " + wrong + " wrong");
        System.exit(wrong == 0 ? 0 : 1);
    }

    private static void tellWrong(String what) {
        wrong++;
        System.out.println("\"" + words + "\": " + what);
    }

    static void due(String call, int got, int due) {
        asked++;
        if (got != due) {
            tellWrong(call + " answered " + got + ", due is " + due);
        }
    }

    static void due(String call, boolean got, boolean due) {
        due(call, got ? 1 : 0, due ? 1 : 0);
    }

    /** The call must be refused by exactly this exception, and counted by its reason alone. */
    static void refused(HalvingHouse x, String call, int due, Asking asking) {
        int[] counts = {x.status(0), x.status(1), x.status(2)};
        counts[INDEX - due]++;
        int got = 0;
        try {
            got = asking.ask();
            tellWrong(call + " was not refused, but answered " + got);
            return;
        } catch (IndexOutOfBoundsException e) {
            got = e.getClass() == IndexOutOfBoundsException.class ? INDEX : 0;
        } catch (NoSuchElementException e) {
            got = e.getClass() == NoSuchElementException.class ? ELEMENT : 0;
        } catch (IllegalArgumentException e) {
            got = e.getClass() == IllegalArgumentException.class ? ARGUMENT : 0;
        }
        due(call + ", the exception", got, due);
        for (int reason = 0; reason < 3; reason++) {
            due(call + ", status(" + reason + ")", x.status(reason), counts[reason]);
        }
    }

    static void noArgument(HalvingHouse x, String call, Asking asking) {
        refused(x, call, ARGUMENT, asking);
    }

    static void noHouse(HalvingHouse x, String call, Asking asking) {
        refused(x, call, INDEX, asking);
    }

    static void noThief(HalvingHouse x, String call, Asking asking) {
        refused(x, call, ELEMENT, asking);
    }

    static void feed(HalvingHouse x, String text) {
        for (int i = 0; i < text.length(); i += 20) {
            int[] five = new int[5];
            for (int j = 0; j < 20 && i + j < text.length(); j++) {
                five[j / 4] |= text.charAt(i + j) << 24 - j % 4 * 8;
            }
            x.feed(five[0], five[1], five[2], five[3], five[4]);
        }
    }

    static int shape(HalvingHouse x, String text) {
        feed(x, text);
        return x.shape(text.length());
    }

    static int thief(HalvingHouse x, String text) {
        feed(x, text);
        return x.thief(text.length());
    }

    /** A new object of a SHAPE with NUMBERS in house 0. */
    static HalvingHouse house(String shape, int... numbers) {
        HalvingHouse x = new HalvingHouse();
        shape(x, shape);
        fill(x, 0, numbers);
        return x;
    }

    static void fill(HalvingHouse x, int house, int... numbers) {
        for (int number : numbers) {
            x.put(house, number);
        }
    }

    static void fillFrom(HalvingHouse x, int house, int first, int many) {
        for (int i = 0; i < many; i++) {
            x.put(house, first + i);
        }
    }

    /** The house must have these NUMBERS and no others. */
    static void holds(HalvingHouse x, int house, int... numbers) {
        due("how many of house " + house, x.of(house, 0), numbers.length);
        for (int k = 0; k < numbers.length; k++) {
            due("kth(" + house + ", " + k + ")", x.kth(house, k), numbers[k]);
        }
    }

    /** An even number of CHANGES of a house that is empty ahead and behind; the helper has 100 to 149 then. */
    static void makeChanges(HalvingHouse x, int house, int helper, int changes) {
        fillFrom(x, helper, 100, 50);
        for (int hundred = 0; hundred < changes / 100; hundred++) {
            x.joins(house, helper, 0);
            x.joins(house, helper, 2);
        }
        for (int two = 0; two < changes % 100 / 2; two++) {
            x.put(house, 100);
            x.drop(house, 100);
        }
    }
}
