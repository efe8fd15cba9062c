/**
 * A test for each sentence of the document that names a boundary case of houses: promises 7 to 14, 20 to 25, 30, 31 and
 * 33 to 36, with the Terms that they use.
 */
public final class BoundsOfHouses extends Sentences {
    public static void main(String[] args) {
        numbers();
        putting();
        dropping();
        having();
        whatIsAsked();
        nextAndBefore();
        places();
        thePast();
        pastRefused();
        sinceAndRoom();
        joining();
        joiningTooMuch();
        running();
        splitting();
        splittingTooMuch();
        gaps();
        images();
        refusals();
        counts();
        end("bounds of houses");
    }

    // ---------------------------------------------------------------- Promises 7 to 14

    static void numbers() {
        sentence("HOUSES 0 to 3 hold NUMBERS of W bits (below 2 to the W), each once;", () -> {
            for (int wide = 2; wide <= 16; wide++) {
                HalvingHouse x = house("wide " + wide + ";");
                int all = 1 << wide;
                due("0", x.put(0, 0), 1);
                due("the greatest", x.put(3, all - 1), 1);
                due("the greatest again", x.put(3, all - 1), 0);
                noArgument(x, "2 to the W", () -> x.put(0, all));
                noArgument(x, "-1", () -> x.put(0, -1));
                holds(x, 0, 0);
                holds(x, 3, all - 1);
            }
        });
        sentence("CHANGES of a house (a NUMBER put that was not there, dropped that was)", () -> {
            HalvingHouse x = house("wide 4;");
            x.put(0, 5);
            x.put(0, 5);
            due("put twice", x.of(0, 3), 1);
            x.drop(0, 6);
            due("dropped what was not there", x.of(0, 3), 1);
            x.drop(0, 5);
            x.drop(0, 5);
            due("dropped twice", x.of(0, 3), 2);
            due("another house", x.of(1, 3), 0);
        });
    }

    static void putting() {
        sentence("1: it is new; 0: it was there;", () -> {
            HalvingHouse x = house("wide 4;");
            due("new", x.put(0, 15), 1);
            due("there", x.put(0, 15), 0);
            due("new in another house", x.put(3, 15), 1);
            x.drop(0, 15);
            due("new again", x.put(0, 15), 1);
            holds(x, 0, 15);
        });
        sentence("-2: there are 1,000 CHANGES. (put)", () -> {
            HalvingHouse x = house("wide 8;");
            makeChanges(x, 0, 1, 998);
            due("the 999th", x.put(0, 7), 1);
            due("the 1,000th", x.put(0, 8), 1);
            due("1,000", x.of(0, 3), 1000);
            due("the next one", x.put(0, 9), -2);
            due("1,000 still", x.of(0, 3), 1000);
            holds(x, 0, 7, 8);
            due("one that is there", x.put(0, 7), 0);
            due("another house", x.put(2, 9), 1);
        });
        sentence("IndexOutOfBoundsException: no such house (so below). (put)", () -> {
            HalvingHouse x = house("wide 4;");
            noHouse(x, "-1", () -> x.put(-1, 0));
            noHouse(x, "4", () -> x.put(4, 0));
            noHouse(x, "the least", () -> x.put(Integer.MIN_VALUE, 0));
            noHouse(x, "the greatest", () -> x.put(Integer.MAX_VALUE, 0));
            due("NUMBERS", x.count(2), 0);
        });
        sentence("IllegalArgumentException: no NUMBER of W bits (so below). (put)", () -> {
            HalvingHouse x = house("wide 4;");
            noArgument(x, "-1", () -> x.put(0, -1));
            noArgument(x, "16", () -> x.put(0, 16));
            noArgument(x, "the least", () -> x.put(0, Integer.MIN_VALUE));
            noArgument(x, "the greatest", () -> x.put(0, Integer.MAX_VALUE));
            due("NUMBERS", x.count(2), 0);
        });
    }

    static void dropping() {
        sentence("1: it was there; 0: it was not;", () -> {
            HalvingHouse x = house("wide 4;", 0, 15);
            due("of an empty house", x.drop(1, 0), 0);
            due("0", x.drop(0, 0), 1);
            due("0 again", x.drop(0, 0), 0);
            due("15, the last one", x.drop(0, 15), 1);
            due("15 again", x.drop(0, 15), 0);
            holds(x, 0);
        });
        sentence("-2: there are 1,000 CHANGES. (drop)", () -> {
            HalvingHouse x = house("wide 8;");
            makeChanges(x, 0, 1, 996);
            x.put(0, 7);
            x.put(0, 8);
            x.put(0, 9);
            due("the 1,000th", x.drop(0, 9), 1);
            due("the next one", x.drop(0, 8), -2);
            due("1,000 still", x.of(0, 3), 1000);
            holds(x, 0, 7, 8);
            due("one that is not there", x.drop(0, 9), 0);
        });
        sentence("no such house, no NUMBER (drop)", () -> {
            HalvingHouse x = house("wide 4;", 0, 15);
            noHouse(x, "-1", () -> x.drop(-1, 0));
            noHouse(x, "4", () -> x.drop(4, 0));
            noArgument(x, "-1", () -> x.drop(0, -1));
            noArgument(x, "16", () -> x.drop(0, 16));
            holds(x, 0, 0, 15);
        });
    }

    static void having() {
        sentence("Whether it is there.", () -> {
            HalvingHouse x = house("wide 4;", 0, 15);
            due("0", x.has(0, 0), true);
            due("15", x.has(0, 15), true);
            due("1", x.has(0, 1), false);
            due("14", x.has(0, 14), false);
            due("of an empty house", x.has(3, 0), false);
            x.drop(0, 0);
            due("gone", x.has(0, 0), false);
        });
        sentence("no such house, no NUMBER (has)", () -> {
            HalvingHouse x = house("wide 4;", 0, 15);
            noHouse(x, "-1", () -> x.has(-1, 0) ? 1 : 0);
            noHouse(x, "4", () -> x.has(4, 0) ? 1 : 0);
            noArgument(x, "-1", () -> x.has(0, -1) ? 1 : 0);
            noArgument(x, "16", () -> x.has(0, 16) ? 1 : 0);
        });
    }

    static void whatIsAsked() {
        sentence("How many there are (what 0), the least (1), the greatest (2; NONE of an empty one), CHANGES (3).", () -> {
            HalvingHouse x = house("wide 4;");
            due("how many of an empty one", x.of(0, 0), 0);
            due("the least of an empty one", x.of(0, 1), -1);
            due("the greatest of an empty one", x.of(0, 2), -1);
            due("CHANGES of an empty one", x.of(0, 3), 0);
            x.put(0, 0);
            due("the least of 0 alone", x.of(0, 1), 0);
            due("the greatest of 0 alone", x.of(0, 2), 0);
            x.put(0, 15);
            due("the least", x.of(0, 1), 0);
            due("the greatest", x.of(0, 2), 15);
            x.drop(0, 0);
            x.drop(0, 15);
            due("the least of one that is empty again", x.of(0, 1), -1);
            due("the greatest of one that is empty again", x.of(0, 2), -1);
            due("CHANGES of one that is empty again", x.of(0, 3), 4);
        });
        sentence("another what, no such house (of)", () -> {
            HalvingHouse x = house("wide 4;", 3);
            noArgument(x, "what -1", () -> x.of(0, -1));
            noArgument(x, "what 4", () -> x.of(0, 4));
            noHouse(x, "-1", () -> x.of(-1, 0));
            noHouse(x, "4", () -> x.of(4, 0));
        });
    }

    static void nextAndBefore() {
        sentence("The least NUMBER above x; NONE.", () -> {
            HalvingHouse x = house("wide 4;", 0, 7, 15);
            due("of an empty house, -1", x.next(1, -1), -1);
            due("of an empty house, 15", x.next(1, 15), -1);
            due("-1", x.next(0, -1), 0);
            due("0", x.next(0, 0), 7);
            due("6", x.next(0, 6), 7);
            due("7", x.next(0, 7), 15);
            due("14", x.next(0, 14), 15);
            due("15", x.next(0, 15), -1);
            x.drop(0, 15);
            due("7, the greatest", x.next(0, 7), -1);
        });
        sentence("IllegalArgumentException: x is below -1, or no NUMBER (so of all such).", () -> {
            HalvingHouse x = house("wide 4;", 0, 7, 15);
            due("-1", x.next(0, -1), 0);
            noArgument(x, "next(0, -2)", () -> x.next(0, -2));
            noArgument(x, "next(0, 16)", () -> x.next(0, 16));
            noArgument(x, "next(0, the least)", () -> x.next(0, Integer.MIN_VALUE));
            noArgument(x, "next(0, the greatest)", () -> x.next(0, Integer.MAX_VALUE));
            noHouse(x, "next(-1, 0)", () -> x.next(-1, 0));
            noHouse(x, "next(4, 0)", () -> x.next(4, 0));
        });
        sentence("The greatest below x (to 2 to the W); NONE.", () -> {
            HalvingHouse x = house("wide 4;", 0, 7, 15);
            due("of an empty house, 16", x.before(1, 16), -1);
            due("of an empty house, 0", x.before(1, 0), -1);
            due("16", x.before(0, 16), 15);
            due("15", x.before(0, 15), 7);
            due("8", x.before(0, 8), 7);
            due("7", x.before(0, 7), 0);
            due("1", x.before(0, 1), 0);
            due("0", x.before(0, 0), -1);
            x.drop(0, 0);
            due("7, the least", x.before(0, 7), -1);
            due("2 to the 16", house("wide 16;", 65535).before(0, 65536), 65535);
            noArgument(x, "before(0, 17)", () -> x.before(0, 17));
            noArgument(x, "before(0, -1)", () -> x.before(0, -1));
            noArgument(x, "before(0, the least)", () -> x.before(0, Integer.MIN_VALUE));
            noArgument(x, "before(0, the greatest)", () -> x.before(0, Integer.MAX_VALUE));
            noHouse(x, "before(-1, 0)", () -> x.before(-1, 0));
            noHouse(x, "before(4, 0)", () -> x.before(4, 0));
        });
    }

    static void places() {
        sentence("The k-th NUMBER from 0 on; NONE: there are not so many.", () -> {
            HalvingHouse x = house("wide 4;", 15, 0, 7);
            due("0", x.kth(0, 0), 0);
            due("1", x.kth(0, 1), 7);
            due("2", x.kth(0, 2), 15);
            due("3", x.kth(0, 3), -1);
            due("-1", x.kth(0, -1), -1);
            due("the least", x.kth(0, Integer.MIN_VALUE), -1);
            due("the greatest", x.kth(0, Integer.MAX_VALUE), -1);
            due("0 of an empty house", x.kth(1, 0), -1);
            x.drop(0, 15);
            due("2 of two", x.kth(0, 2), -1);
            noHouse(x, "kth(-1, 0)", () -> x.kth(-1, 0));
            noHouse(x, "kth(4, 0)", () -> x.kth(4, 0));
        });
        sentence("How many there are from a to b (0, if a is above b).", () -> {
            HalvingHouse x = house("wide 4;", 0, 7, 8, 15);
            due("of an empty house", x.between(1, 0, 15), 0);
            due("all", x.between(0, 0, 15), 4);
            due("both ends count", x.between(0, 7, 8), 2);
            due("neither end", x.between(0, 1, 6), 0);
            due("from one to itself", x.between(0, 15, 15), 1);
            due("from none to itself", x.between(0, 14, 14), 0);
            due("8 to 7", x.between(0, 8, 7), 0);
            due("15 to 0", x.between(0, 15, 0), 0);
        });
        sentence("no such house, no NUMBER (between)", () -> {
            HalvingHouse x = house("wide 4;", 0, 15);
            noArgument(x, "a -1", () -> x.between(0, -1, 3));
            noArgument(x, "a 16", () -> x.between(0, 16, 3));
            noArgument(x, "b -1", () -> x.between(0, 3, -1));
            noArgument(x, "b 16", () -> x.between(0, 3, 16));
            noArgument(x, "b the greatest", () -> x.between(0, 3, Integer.MAX_VALUE));
            noHouse(x, "-1", () -> x.between(-1, 0, 3));
            noHouse(x, "4", () -> x.between(4, 0, 3));
        });
    }

    // ---------------------------------------------------------------- Promises 20 to 23

    static void thePast() {
        sentence("The PAST of a house: at time t it is as behind its first t CHANGES.", () -> {
            HalvingHouse x = house("wide 4;", 5, 9);
            x.put(0, 9);
            x.drop(0, 5);
            x.put(0, 0);
            int[][] was = {{0, -1, -1}, {1, 5, 5}, {2, 5, 9}, {1, 9, 9}, {2, 0, 9}};
            for (int t = 0; t < was.length; t++) {
                for (int what = 0; what < 3; what++) {
                    due("was(0, " + t + ", " + what + ")", x.was(0, t, what), was[t][what]);
                }
            }
            holds(x, 0, 0, 9);
        });
        sentence("Of the house at time t (0 to its CHANGES): 0 how many, 1 the least, 2 the greatest.", () -> {
            HalvingHouse x = house("wide 8;");
            makeChanges(x, 0, 1, 998);
            x.put(0, 1);
            x.put(0, 2);
            due("0", x.was(0, 0, 0), 0);
            due("50", x.was(0, 50, 0), 50);
            due("50, the greatest", x.was(0, 50, 2), 149);
            due("998", x.was(0, 998, 0), 0);
            due("999, the greatest", x.was(0, 999, 2), 1);
            due("1,000", x.was(0, 1000, 0), 2);
            due("1,000, the greatest", x.was(0, 1000, 2), 2);
            noArgument(x, "1,001", () -> x.was(0, 1001, 0));
        });
        sentence("What a call (2 has: 1 or 0, 3 next, 4 before) answered at time t.", () -> {
            HalvingHouse x = house("wide 4;", 0, 15);
            x.drop(0, 0);
            due("has 0 at 0", x.asked(0, 0, HAS, 0), 0);
            due("has 0 at 1", x.asked(0, 1, HAS, 0), 1);
            due("has 0 at 2", x.asked(0, 2, HAS, 0), 1);
            due("has 0 at 3", x.asked(0, 3, HAS, 0), 0);
            due("has 15 at 3", x.asked(0, 3, HAS, 15), 1);
            due("next -1 at 0", x.asked(0, 0, NEXT, -1), -1);
            due("next -1 at 1", x.asked(0, 1, NEXT, -1), 0);
            due("next -1 at 3", x.asked(0, 3, NEXT, -1), 15);
            due("next 15 at 3", x.asked(0, 3, NEXT, 15), -1);
            due("next 0 at 1", x.asked(0, 1, NEXT, 0), -1);
            due("before 16 at 0", x.asked(0, 0, BEFORE, 16), -1);
            due("before 16 at 1", x.asked(0, 1, BEFORE, 16), 0);
            due("before 16 at 2", x.asked(0, 2, BEFORE, 16), 15);
            due("before 15 at 3", x.asked(0, 3, BEFORE, 15), -1);
            due("before 0 at 2", x.asked(0, 2, BEFORE, 0), -1);
        });
    }

    static void pastRefused() {
        sentence("IllegalArgumentException: also t.", () -> {
            HalvingHouse x = house("wide 4;", 5, 9);
            noArgument(x, "was at -1", () -> x.was(0, -1, 0));
            noArgument(x, "was at 3 of 2", () -> x.was(0, 3, 0));
            noArgument(x, "was at 1 of an empty house", () -> x.was(1, 1, 0));
            noArgument(x, "was at the least", () -> x.was(0, Integer.MIN_VALUE, 0));
            noArgument(x, "was at the greatest", () -> x.was(0, Integer.MAX_VALUE, 0));
            noArgument(x, "asked at -1", () -> x.asked(0, -1, HAS, 5));
            noArgument(x, "asked at 3 of 2", () -> x.asked(0, 3, HAS, 5));
            noArgument(x, "asked at 1 of an empty house", () -> x.asked(1, 1, HAS, 5));
            due("was at 0 of an empty house", x.was(1, 0, 0), 0);
            due("asked at 0 of an empty house", x.asked(1, 0, HAS, 5), 0);
        });
        sentence("another what, no such house (was)", () -> {
            HalvingHouse x = house("wide 4;", 5, 9);
            noArgument(x, "what -1", () -> x.was(0, 1, -1));
            noArgument(x, "what 3", () -> x.was(0, 1, 3));
            noHouse(x, "-1", () -> x.was(-1, 0, 0));
            noHouse(x, "4", () -> x.was(4, 0, 0));
        });
        sentence("another call, no such x, no such house (asked)", () -> {
            HalvingHouse x = house("wide 4;", 5, 9);
            noArgument(x, "put", () -> x.asked(0, 1, PUT, 5));
            noArgument(x, "drop", () -> x.asked(0, 1, DROP, 5));
            noArgument(x, "call 5", () -> x.asked(0, 1, 5, 5));
            noArgument(x, "call -1", () -> x.asked(0, 1, -1, 5));
            noArgument(x, "has -1", () -> x.asked(0, 1, HAS, -1));
            noArgument(x, "has 16", () -> x.asked(0, 1, HAS, 16));
            noArgument(x, "next -2", () -> x.asked(0, 1, NEXT, -2));
            noArgument(x, "next 16", () -> x.asked(0, 1, NEXT, 16));
            noArgument(x, "before -1", () -> x.asked(0, 1, BEFORE, -1));
            noArgument(x, "before 17", () -> x.asked(0, 1, BEFORE, 17));
            noHouse(x, "-1", () -> x.asked(-1, 0, HAS, 5));
            noHouse(x, "4", () -> x.asked(4, 0, HAS, 5));
        });
    }

    static void sinceAndRoom() {
        sentence("The time at which a NUMBER came last (what 0), went last (1); NONE: never.", () -> {
            HalvingHouse x = house("wide 4;", 0, 15);
            due("0 came", x.since(0, 0, 0), 1);
            due("15 came", x.since(0, 15, 0), 2);
            due("0 never went", x.since(0, 0, 1), -1);
            due("7 never came", x.since(0, 7, 0), -1);
            due("7 never went", x.since(0, 7, 1), -1);
            x.drop(0, 0);
            x.put(0, 0);
            x.drop(0, 0);
            due("0 came last", x.since(0, 0, 0), 4);
            due("0 went last", x.since(0, 0, 1), 5);
            x.put(0, 15);
            due("15 came when it was new", x.since(0, 15, 0), 2);
            due("of an empty house", x.since(1, 0, 0), -1);
        });
        sentence("another what, no NUMBER, no such house (since)", () -> {
            HalvingHouse x = house("wide 4;", 0, 15);
            noArgument(x, "what -1", () -> x.since(0, 0, -1));
            noArgument(x, "what 2", () -> x.since(0, 0, 2));
            noArgument(x, "-1", () -> x.since(0, -1, 0));
            noArgument(x, "16", () -> x.since(0, 16, 0));
            noHouse(x, "house -1", () -> x.since(-1, 0, 0));
            noHouse(x, "house 4", () -> x.since(4, 0, 0));
        });
        sentence("ROOM of the PAST by copying: TOUCHES of all CHANGES together, each by what was ahead of it; by notes: "
                + "how many.", () -> {
            HalvingHouse x = house("wide 4;ends 2;");
            due("copying of none", x.room(0, 0), 0);
            due("notes of none", x.room(0, 1), 0);
            fill(x, 0, 2, 12);
            due("two puts", x.room(0, 0), 2);
            x.put(0, 7);
            due("7 goes INSIDE: 1, the LIST 1, and 1", x.room(0, 0), 2 + 3);
            x.put(0, 7);
            x.drop(0, 6);
            due("no CHANGES", x.room(0, 0), 5);
            x.drop(0, 2);
            due("the least: 1, 2, the ROOM 1, the LIST 1", x.room(0, 0), 5 + 5);
            due("notes", x.room(0, 1), 4);
        });
        sentence("another what, no such house (room)", () -> {
            HalvingHouse x = house("wide 4;", 0, 15);
            noArgument(x, "what -1", () -> x.room(0, -1));
            noArgument(x, "what 2", () -> x.room(0, 2));
            noHouse(x, "house -1", () -> x.room(-1, 0));
            noHouse(x, "house 4", () -> x.room(4, 0));
        });
    }

    // ---------------------------------------------------------------- Promises 24, 25, 30, 31

    static void joining() {
        sentence("JOIN of a with b: all NUMBERS of b are put into a, from the least on;", () -> {
            HalvingHouse x = house("wide 4;ends 2;", 12, 2);
            due("b is empty", x.joins(0, 1, 0), 0);
            // 2 and 12 into an empty one: 1, 1.
            due("a is empty", x.joins(1, 0, 0), 2);
            holds(x, 1, 2, 12);
            // From the least on: 5, 9 into 2, 12: INSIDE in a new ROOM each: 3, 3.
            fill(x, 2, 9, 5);
            due("5, then 9", x.joins(0, 2, 0), 6);
            due("5 came first", x.since(0, 5, 0), 3);
            due("9 came then", x.since(0, 9, 0), 4);
            holds(x, 2, 5, 9);
        });
        sentence("MEET: all NUMBERS of a that b has not are dropped, from the least on;", () -> {
            HalvingHouse x = house("wide 4;ends 2;", 2, 7, 12);
            due("of an empty one", x.joins(1, 0, 1), 0);
            fill(x, 1, 2, 7, 12, 15);
            due("b has all", x.joins(0, 1, 1), 0);
            holds(x, 0, 2, 7, 12);
            // 2 goes: 1, 2, the ROOM of 7 1, the LIST 1; then 7 and 12: 1, 1.
            due("with an empty one", x.joins(0, 2, 1), 5 + 1 + 1);
            holds(x, 0);
            due("2 went first", x.since(0, 2, 1), 4);
            due("12 went last", x.since(0, 12, 1), 6);
        });
        sentence("PART: all NUMBERS of b (also those a has not) are dropped from a, likewise.", () -> {
            HalvingHouse x = house("wide 4;ends 2;", 2, 7, 12);
            due("with an empty one", x.joins(0, 1, 2), 0);
            fill(x, 1, 0, 6, 15);
            // None is there: 0 and 15: 1; 6 in the ROOM of 7: 2.
            due("with what a has not", x.joins(0, 1, 2), 4);
            holds(x, 0, 2, 7, 12);
            due("of an empty one", x.joins(2, 1, 2), 3);
            fill(x, 3, 12, 7, 2);
            due("with the same", x.joins(0, 3, 2), 7);
            due("2 went first", x.since(0, 2, 1), 4);
            holds(x, 0);
            holds(x, 3, 2, 7, 12);
        });
        sentence("TOUCHES: those of all these calls by HALVES (also of those that change nothing).", () -> {
            HalvingHouse x = house("wide 4;ends 2;", 2, 7, 12);
            fill(x, 1, 2, 7, 12);
            // The least 1, in its ROOM 2, the greatest 1.
            due("nothing is new", x.joins(0, 1, 0), 4);
            due("CHANGES", x.of(0, 3), 3);
        });
        sentence("IllegalArgumentException: they are one, or how.", () -> {
            HalvingHouse x = house("wide 4;", 2, 7, 12);
            for (int how = 0; how < 3; how++) {
                int same = how;
                noArgument(x, "they are one", () -> x.joins(0, 0, same));
                noArgument(x, "they are one", () -> x.joins(3, 3, same));
            }
            noArgument(x, "how -1", () -> x.joins(0, 1, -1));
            noArgument(x, "how 3", () -> x.joins(0, 1, 3));
            holds(x, 0, 2, 7, 12);
        });
        sentence("no such house (joins)", () -> {
            HalvingHouse x = house("wide 4;", 2, 7, 12);
            noHouse(x, "a -1", () -> x.joins(-1, 0, 0));
            noHouse(x, "a 4", () -> x.joins(4, 0, 0));
            noHouse(x, "b -1", () -> x.joins(0, -1, 0));
            noHouse(x, "b 4", () -> x.joins(0, 4, 2));
            holds(x, 0, 2, 7, 12);
        });
    }

    static void joiningTooMuch() {
        sentence("-2, doing nothing: there would be .. more than 1,000 CHANGES. (JOIN)", () -> {
            HalvingHouse x = house("wide 8;");
            makeChanges(x, 0, 1, 996);
            fill(x, 0, 1, 2);
            fill(x, 2, 1, 2, 3, 4, 5);
            due("1,001", x.joins(0, 2, 0), -2);
            holds(x, 0, 1, 2);
            due("CHANGES", x.of(0, 3), 998);
            x.drop(2, 5);
            due("1,000, those that are there aside", x.joins(0, 2, 0) > 0, true);
            holds(x, 0, 1, 2, 3, 4);
            due("nothing is new at 1,000", x.joins(0, 2, 0) > 0, true);
            due("CHANGES", x.of(0, 3), 1000);
        });
        sentence("-2, doing nothing: there would be .. more than 1,000 CHANGES. (MEET)", () -> {
            HalvingHouse x = house("wide 8;");
            makeChanges(x, 0, 1, 992);
            fill(x, 0, 1, 2, 3, 4, 5);
            fill(x, 2, 1);
            due("1,001", x.joins(0, 2, 1), -2);
            holds(x, 0, 1, 2, 3, 4, 5);
            due("CHANGES", x.of(0, 3), 997);
            x.put(2, 2);
            due("1,000", x.joins(0, 2, 1) > 0, true);
            holds(x, 0, 1, 2);
            due("nothing goes at 1,000", x.joins(0, 2, 1), 0);
            due("CHANGES", x.of(0, 3), 1000);
        });
        sentence("-2, doing nothing: there would be .. more than 1,000 CHANGES. (PART)", () -> {
            HalvingHouse x = house("wide 8;");
            makeChanges(x, 0, 1, 992);
            fill(x, 0, 1, 2, 3, 4, 5);
            fill(x, 2, 2, 3, 4, 5, 6, 7);
            due("1,001", x.joins(0, 2, 2), -2);
            holds(x, 0, 1, 2, 3, 4, 5);
            due("CHANGES", x.of(0, 3), 997);
            x.drop(2, 2);
            due("1,000, those that are not there aside", x.joins(0, 2, 2) > 0, true);
            holds(x, 0, 1, 2);
            due("nothing goes at 1,000", x.joins(0, 2, 2) > 0, true);
            due("CHANGES", x.of(0, 3), 1000);
        });
    }

    static void running() {
        sentence("RUNS of a and b: of all NUMBERS of both in order (those in both aside) how many rows of one house's "
                + "there are.", () -> {
            HalvingHouse x = house("wide 4;", 0, 1, 7, 15);
            due("both empty", x.runs(1, 2), 0);
            due("b empty", x.runs(0, 1), 1);
            due("a empty", x.runs(1, 0), 1);
            fill(x, 1, 0, 1, 7, 15);
            due("all in both", x.runs(0, 1), 0);
            fill(x, 2, 7);
            due("one in both parts none", x.runs(0, 2), 1);
            fill(x, 3, 2, 8);
            due("0 1, 2, 7, 8, 15", x.runs(0, 3), 5);
            due("turned round", x.runs(3, 0), 5);
        });
        sentence("RUNS (0, if they are one).", () -> {
            HalvingHouse x = house("wide 4;", 0, 1, 7, 15);
            due("one", x.runs(0, 0), 0);
            due("an empty one", x.runs(3, 3), 0);
            noHouse(x, "a -1", () -> x.runs(-1, 0));
            noHouse(x, "a 4", () -> x.runs(4, 0));
            noHouse(x, "b -1", () -> x.runs(0, -1));
            noHouse(x, "b 4", () -> x.runs(0, 4));
            noHouse(x, "one that is none", () -> x.runs(4, 4));
        });
    }

    static void splitting() {
        sentence("SPLIT of a at x into b: all NUMBERS of a from x on, from the least on, are dropped from a and put into "
                + "b: TOUCHES as of JOIN.", () -> {
            HalvingHouse x = house("wide 4;ends 2;", 2, 7, 12);
            due("of an empty one", x.split(1, 0, 0), 0);
            due("none from 13 on", x.split(0, 1, 13), 0);
            due("none from 15 on", x.split(0, 1, 15), 0);
            holds(x, 0, 2, 7, 12);
            // 12 goes: 1, 2, the ROOM of 7 1, the LIST 1; comes: 1.
            due("12 from 12 on", x.split(0, 1, 12), 5 + 1);
            holds(x, 0, 2, 7);
            holds(x, 1, 12);
            // 2 and 7 go: 1, 1; come to 12: 1, and 7 INSIDE: 3.
            due("all from 0 on", x.split(0, 1, 0), 1 + 1 + 1 + 3);
            holds(x, 0);
            holds(x, 1, 2, 7, 12);
            due("2 went first", x.since(0, 2, 1), 5);
            due("7 came last", x.since(1, 7, 0), 3);
            fill(x, 2, 7);
            // 7 goes: 1; the put of 7, which is there INSIDE: 2.
            due("what b has", x.split(2, 1, 7), 1 + 2);
            due("CHANGES of b", x.of(1, 3), 3);
            holds(x, 2);
        });
        sentence("IllegalArgumentException: they are one, or x.", () -> {
            HalvingHouse x = house("wide 4;", 2, 7, 12);
            noArgument(x, "they are one", () -> x.split(0, 0, 7));
            noArgument(x, "they are one", () -> x.split(3, 3, 7));
            noArgument(x, "x -1", () -> x.split(0, 1, -1));
            noArgument(x, "x 16", () -> x.split(0, 1, 16));
            noArgument(x, "x the greatest", () -> x.split(0, 1, Integer.MAX_VALUE));
            noHouse(x, "a -1", () -> x.split(-1, 0, 7));
            noHouse(x, "a 4", () -> x.split(4, 0, 7));
            noHouse(x, "b -1", () -> x.split(0, -1, 7));
            noHouse(x, "b 4", () -> x.split(0, 4, 7));
            holds(x, 0, 2, 7, 12);
        });
    }

    static void splittingTooMuch() {
        sentence("-2, doing nothing, as of joins() (1,000 CHANGES of either). (of a)", () -> {
            HalvingHouse x = house("wide 8;");
            makeChanges(x, 0, 1, 992);
            fill(x, 0, 1, 2, 3, 4, 5);
            due("1,001", x.split(0, 2, 2), -2);
            holds(x, 0, 1, 2, 3, 4, 5);
            holds(x, 2);
            due("CHANGES of a", x.of(0, 3), 997);
            due("CHANGES of b", x.of(2, 3), 0);
            due("1,000", x.split(0, 2, 3) > 0, true);
            holds(x, 0, 1, 2);
            holds(x, 2, 3, 4, 5);
            due("nothing goes at 1,000", x.split(0, 2, 3), 0);
        });
        sentence("-2, doing nothing, as of joins() (1,000 CHANGES of either). (of b)", () -> {
            HalvingHouse x = house("wide 8;");
            makeChanges(x, 0, 1, 996);
            fill(x, 0, 1, 9);
            fill(x, 2, 7, 8, 9, 10);
            due("1,001", x.split(2, 0, 7), -2);
            holds(x, 0, 1, 9);
            holds(x, 2, 7, 8, 9, 10);
            due("CHANGES of a", x.of(2, 3), 4);
            due("CHANGES of b", x.of(0, 3), 998);
            due("1,000, what is there aside", x.split(2, 0, 8) > 0, true);
            holds(x, 0, 1, 8, 9, 10);
            holds(x, 2, 7);
            fill(x, 3, 8, 10);
            due("nothing new at 1,000", x.split(3, 0, 0) > 0, true);
            holds(x, 3);
            due("CHANGES of b", x.of(0, 3), 1000);
        });
    }

    static void gaps() {
        sentence("GAP: the greatest way from one NUMBER to the next one, and the first NUMBER behind which it is.", () -> {
            HalvingHouse x = house("wide 4;", 0, 15);
            due("0 to 15", x.gap(0, 0), 15);
            due("0", x.gap(0, 1), 0);
            fill(x, 1, 2, 5, 8, 9);
            due("twice 3", x.gap(1, 0), 3);
            due("the first of them", x.gap(1, 1), 2);
            fill(x, 2, 14, 15);
            due("1, to the greatest", x.gap(2, 0), 1);
            due("14", x.gap(2, 1), 14);
        });
        sentence("GAP (what 0), the NUMBER (1); NONE: there are not two.", () -> {
            HalvingHouse x = house("wide 4;", 7);
            due("of one", x.gap(0, 0), -1);
            due("of one", x.gap(0, 1), -1);
            due("of none", x.gap(1, 0), -1);
            due("of none", x.gap(1, 1), -1);
            x.put(0, 8);
            due("of two", x.gap(0, 0), 1);
            x.drop(0, 7);
            due("of one again", x.gap(0, 0), -1);
            noArgument(x, "what -1", () -> x.gap(0, -1));
            noArgument(x, "what 2", () -> x.gap(0, 2));
            noHouse(x, "-1", () -> x.gap(-1, 0));
            noHouse(x, "4", () -> x.gap(4, 0));
        });
    }

    // ---------------------------------------------------------------- Promises 33 to 36

    static void images() {
        sentence("An IMAGE of all houses and their CHANGES: how many there are; -1: there are 3.", () -> {
            HalvingHouse x = house("wide 4;", 3);
            due("the first", x.image(), 1);
            x.put(0, 4);
            due("the second", x.image(), 2);
            x.put(0, 5);
            due("the third", x.image(), 3);
            x.put(0, 6);
            due("a fourth", x.image(), -1);
            due("IMAGES", x.count(0), 3);
            x.restore();
            holds(x, 0, 3, 4, 5);
            due("place again", x.image(), 3);
            due("a fourth again", x.image(), -1);
        });
        sentence("All is as in the latest IMAGE, which is gone: how many are left;", () -> {
            HalvingHouse x = house("wide 4;ends 2;", 2, 12);
            fill(x, 1, 1);
            fill(x, 2, 2);
            x.image();
            x.put(0, 7);
            x.joins(1, 2, 0);
            x.split(2, 3, 0);
            x.image();
            x.drop(0, 7);
            due("the latest", x.restore(), 1);
            holds(x, 0, 2, 7, 12);
            holds(x, 1, 1, 2);
            holds(x, 2);
            holds(x, 3, 2);
            due("the one ahead of it", x.restore(), 0);
            holds(x, 0, 2, 12);
            holds(x, 1, 1);
            holds(x, 2, 2);
            holds(x, 3);
            due("CHANGES", x.of(0, 3), 2);
            due("ROOM", x.room(0, 0), 2);
            due("7 never came", x.since(0, 7, 0), -1);
            noArgument(x, "a time that is gone", () -> x.was(0, 3, 0));
        });
        sentence("-1: there is none.", () -> {
            HalvingHouse x = house("wide 4;", 3);
            due("of a new one", x.restore(), -1);
            holds(x, 0, 3);
            x.image();
            x.put(0, 4);
            x.restore();
            x.put(0, 5);
            due("of one that is gone", x.restore(), -1);
            holds(x, 0, 3, 5);
            due("IMAGES", x.count(0), 0);
        });
        sentence("CHANGES .. 1,000 at most, of an IMAGE", () -> {
            HalvingHouse x = house("wide 8;");
            makeChanges(x, 0, 1, 998);
            x.put(0, 1);
            x.image();
            x.put(0, 2);
            due("full", x.put(0, 3), -2);
            x.restore();
            due("999", x.of(0, 3), 999);
            due("place for one", x.put(0, 3), 1);
            due("full again", x.put(0, 4), -2);
            holds(x, 0, 1, 3);
        });
    }

    static void refusals() {
        sentence("How many calls were refused: 0 IndexOutOfBoundsException, 1 NoSuchElementException, 2 "
                + "IllegalArgumentException; NONE for others.", () -> {
            HalvingHouse x = house("wide 4;", 3);
            noHouse(x, "put(4, 0)", () -> x.put(4, 0));
            noHouse(x, "runs(0, 4)", () -> x.runs(0, 4));
            noHouse(x, "runs(0, -1)", () -> x.runs(0, -1));
            noThief(x, "steals(0, 0, 0, 0)", () -> x.steals(0, 0, 0, 0));
            noThief(x, "seeds(0, 0, 0, 1, 0)", () -> x.seeds(0, 0, 0, 1, 0));
            noArgument(x, "told(4)", () -> x.told(4));
            due("0", x.status(0), 3);
            due("1", x.status(1), 2);
            due("2", x.status(2), 1);
            due("3", x.status(3), -1);
            due("-1", x.status(-1), -1);
            due("the least", x.status(Integer.MIN_VALUE), -1);
            due("the greatest", x.status(Integer.MAX_VALUE), -1);
            // What is answered below 0 is not refused.
            x.restore();
            shape(x, "wide 17;");
            thief(x, "");
            x.kth(0, 9);
            due("0 still", x.status(0), 3);
            due("2 still", x.status(2), 1);
        });
        sentence("(No IMAGE keeps it.)", () -> {
            HalvingHouse x = house("wide 4;", 3);
            noHouse(x, "put(4, 0)", () -> x.put(4, 0));
            x.image();
            noHouse(x, "put(4, 0)", () -> x.put(4, 0));
            noThief(x, "steals(0, 0, 0, 0)", () -> x.steals(0, 0, 0, 0));
            noArgument(x, "put(0, 16)", () -> x.put(0, 16));
            x.restore();
            due("0", x.status(0), 2);
            due("1", x.status(1), 1);
            due("2", x.status(2), 1);
            shape(x, "");
            due("0 behind a SHAPE", x.status(0), 2);
        });
    }

    static void counts() {
        sentence("0 IMAGES, 1 bytes of the TAPE, 2 NUMBERS in all houses; NONE for others.", () -> {
            HalvingHouse x = house("wide 4;", 3, 4);
            due("no IMAGE", x.count(0), 0);
            due("an empty TAPE", x.count(1), 0);
            due("NUMBERS of one house", x.count(2), 2);
            fill(x, 1, 3);
            fill(x, 2, 3);
            fill(x, 3, 3);
            x.image();
            x.image();
            x.image();
            for (int i = 0; i < 25; i++) {
                x.feed(0, 0, 0, 0, 0);
            }
            due("IMAGES", x.count(0), 3);
            due("a full TAPE", x.count(1), 500);
            due("NUMBERS of four houses", x.count(2), 5);
            due("3", x.count(3), -1);
            due("-1", x.count(-1), -1);
            due("the least", x.count(Integer.MIN_VALUE), -1);
            due("the greatest", x.count(Integer.MAX_VALUE), -1);
            due("none of these is refused", x.status(2), 0);
        });
    }
}
