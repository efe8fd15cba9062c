/**
 * A test for each sentence of the document that names a boundary case of TOUCHES, CELLS, bounds, worst sets and rows:
 * promises 15 to 19 and 27 to 29, with the Terms that they use.
 */
public final class BoundsOfTouches extends Sentences {
    /** With ENDS of 2 bits a ROOM and the LIST take 1 each. */
    private static final String ENDS = "wide 4;ends 2;";

    public static void main(String[] args) {
        ends();
        cells();
        putting();
        dropping();
        having();
        goingUp();
        goingDown();
        rowOfBits();
        sortedRow();
        touchesRefused();
        bounds();
        worst();
        worstRefused();
        bad();
        reached();
        rows();
        rowsRefused();
        end("bounds of touches");
    }

    static void touches(HalvingHouse x, int kind, int call, int number, int due) {
        due("touches of " + call + ", " + number, x.touches(0, call, number, kind), due);
    }

    /** TOUCHES by HALVES of a call with each x from a first one on. */
    static void touchesFrom(HalvingHouse x, int call, int first, int... dues) {
        for (int i = 0; i < dues.length; i++) {
            touches(x, 0, call, first + i, dues[i]);
        }
    }

    // ---------------------------------------------------------------- HALVES

    static void ends() {
        sentence("A HOUSE of w bits, w not above E, is an END.", () -> {
            due("w below E", house("wide 4;ends 5;", 1, 5, 9, 12).touches(0, PUT, 7, 0), 1);
            due("w is E", house("wide 4;ends 4;", 1, 5, 9, 12).touches(0, PUT, 7, 0), 1);
            due("w above E", house("wide 4;ends 3;", 1, 5, 9, 12).touches(0, PUT, 7, 0), 2);
            due("CELLS, w is E", house("wide 4;ends 4;", 1, 5, 9, 12).size(0, 0), 1);
            due("CELLS, w above E", house("wide 4;ends 3;", 1, 5, 9, 12).size(0, 0), 2 + 1 + 2);
            // 4 bits in ENDS of 1: the LIST and the ROOMS keep their least and greatest aside, too.
            due("CELLS, halves above E", house("wide 4;ends 1;", 1, 5, 9, 12).size(0, 0), 2 + 2 + 4);
        });
        sentence("An END and an empty HOUSE: 1, whatever is asked.", () -> {
            HalvingHouse end = house("wide 4;ends 4;", 1, 5, 9);
            HalvingHouse empty = house("wide 16;");
            for (int call = PUT; call <= BEFORE; call++) {
                for (int number : new int[] {0, 1, 5, 6, 9, 15}) {
                    touches(end, 0, call, number, 1);
                    touches(empty, 0, call, number, 1);
                }
                touches(empty, 0, call, 65535, 1);
            }
            touches(end, 0, NEXT, -1, 1);
            touches(empty, 0, NEXT, -1, 1);
            touches(end, 0, BEFORE, 16, 1);
            touches(empty, 0, BEFORE, 65536, 1);
        });
    }

    static void cells() {
        sentence("CELLS: of an empty HOUSE 0; of an END 1; else 2, and those of its LIST and of all its ROOMS.", () -> {
            due("empty", house("wide 4;").size(0, 0), 0);
            due("an empty END", house("wide 4;ends 4;").size(0, 0), 0);
            due("an END of one", house("wide 4;ends 4;", 0).size(0, 0), 1);
            due("an END of two", house("wide 4;ends 4;", 0, 15).size(0, 0), 1);
            due("one", house(ENDS, 0).size(0, 0), 2);
            due("two", house(ENDS, 0, 15).size(0, 0), 2);
            due("one INSIDE", house(ENDS, 0, 7, 15).size(0, 0), 4);
            due("two in a ROOM", house(ENDS, 0, 6, 7, 15).size(0, 0), 4);
            due("two in two ROOMS", house(ENDS, 0, 7, 8, 15).size(0, 0), 5);
            HalvingHouse full = house(ENDS);
            fillFrom(full, 0, 0, 16);
            due("full", full.size(0, 0), 2 + 1 + 4);
            full.split(0, 1, 0);
            due("empty again", full.size(0, 0), 0);
        });
        sentence("BITS: .. CELLS: 2 to the W by 32, 1 at least.", () -> {
            int[] dues = {1, 1, 1, 1, 2, 4, 8, 16, 32, 64, 128, 256, 512, 1024, 2048};
            for (int wide = 2; wide <= 16; wide++) {
                due("wide " + wide, house("wide " + wide + ";").size(0, 1), dues[wide - 2]);
            }
        });
        sentence("a SORTED row of n. CELLS: n.", () -> {
            HalvingHouse x = house("wide 4;");
            due("none", x.size(0, 2), 0);
            fillFrom(x, 0, 0, 16);
            due("full", x.size(0, 2), 16);
            x.drop(0, 0);
            due("one less", x.size(0, 2), 15);
        });
        sentence("another KIND, no such house (size)", () -> {
            HalvingHouse x = house("wide 4;", 3);
            noArgument(x, "kind -1", () -> x.size(0, -1));
            noArgument(x, "kind 3", () -> x.size(0, 3));
            noHouse(x, "-1", () -> x.size(-1, 0));
            noHouse(x, "4", () -> x.size(4, 0));
        });
    }

    static void putting() {
        sentence("put x: nothing more, if x is the least or the greatest, or there is one NUMBER alone.", () -> {
            touches(house(ENDS, 2, 7, 12), 0, PUT, 2, 1);
            touches(house(ENDS, 2, 7, 12), 0, PUT, 12, 1);
            HalvingHouse alone = house(ENDS, 7);
            touches(alone, 0, PUT, 0, 1);
            touches(alone, 0, PUT, 7, 1);
            touches(alone, 0, PUT, 15, 1);
            HalvingHouse two = house(ENDS, 7, 8);
            touches(two, 0, PUT, 6, 3);
            touches(two, 0, PUT, 9, 3);
        });
        sentence("Else y (x, or the least if x is less, or the greatest if x is greater) goes INSIDE", () -> {
            // 5 and 7 are in ROOM 1, 0 and 3 in ROOM 0, 12 and 15 in ROOM 3.
            touches(house(ENDS, 5, 7, 12), 0, PUT, 3, 2);
            touches(house(ENDS, 3, 5, 7), 0, PUT, 12, 2);
            touches(house(ENDS, 3, 5, 12), 0, PUT, 0, 3);
            touches(house(ENDS, 3, 5, 12), 0, PUT, 15, 3);
            touches(house(ENDS, 3, 5, 12), 0, PUT, 7, 2);
        });
        sentence("if its ROOM is empty, TOUCHES of putting its upper half into the LIST, and 1; else those of putting "
                + "its lower half into the ROOM.", () -> {
            // The least and the greatest are aside: their ROOMS are empty without others.
            touches(house(ENDS, 4, 15), 0, PUT, 5, 3);
            touches(house(ENDS, 0, 15), 0, PUT, 14, 3);
            touches(house(ENDS, 4, 6, 15), 0, PUT, 5, 2);
            touches(house(ENDS, 4, 6, 15), 0, PUT, 6, 2);
            touches(house(ENDS, 4, 6, 15), 0, PUT, 8, 3);
            // The LIST is 1, 2; 0 is put there: 1 goes INSIDE, into an empty ROOM of bits: 1, 1, 1.
            touches(house("wide 4;", 0, 5, 9, 15), 0, PUT, 3, 1 + 3 + 1);
        });
    }

    static void dropping() {
        sentence("drop x: nothing more, if x is less than the least or greater than the greatest, or there is one "
                + "NUMBER alone", () -> {
            touchesFrom(house(ENDS, 2, 7, 12), DROP, 0, 1, 1, 5);
            touchesFrom(house(ENDS, 2, 7, 12), DROP, 12, 5, 1, 1, 1);
            touchesFrom(house(ENDS, 7), DROP, 6, 1, 1, 1);
            // 4 and 7 would be in the ROOM of what is INSIDE.
            touches(house(ENDS, 5, 6, 12), 0, DROP, 4, 1);
            touches(house(ENDS, 2, 5, 6), 0, DROP, 7, 1);
        });
        sentence("or x is the least or the greatest and nothing is INSIDE.", () -> {
            touches(house(ENDS, 2, 12), 0, DROP, 2, 1);
            touches(house(ENDS, 2, 12), 0, DROP, 12, 1);
            touches(house(ENDS, 2, 7, 12), 0, DROP, 2, 5);
            touches(house(ENDS, 2, 7, 12), 0, DROP, 12, 5);
        });
        sentence("If it is the least (greatest): 2, and y, the least (greatest) INSIDE, goes from there; else y is x.", () -> {
            // Of 5, 6, 9 the least shares its ROOM, the greatest does not.
            HalvingHouse x = house(ENDS, 2, 5, 6, 9, 12);
            touches(x, 0, DROP, 2, 1 + 2 + 1);
            touches(x, 0, DROP, 12, 1 + 2 + 1 + 1);
            touches(x, 0, DROP, 5, 1 + 1);
            touches(x, 0, DROP, 9, 1 + 1 + 1);
        });
        sentence("If y's ROOM is empty, nothing more;", () -> {
            touches(house(ENDS, 2, 7, 12), 0, DROP, 8, 1);
            touches(house(ENDS, 2, 7, 12), 0, DROP, 3, 1);
            touches(house(ENDS, 2, 12), 0, DROP, 7, 1);
        });
        sentence("else TOUCHES of dropping its lower half from the ROOM, and, if that was its only NUMBER, those of "
                + "dropping the upper half from the LIST.", () -> {
            touches(house(ENDS, 2, 7, 12), 0, DROP, 7, 1 + 1 + 1);
            touches(house(ENDS, 2, 7, 12), 0, DROP, 6, 1 + 1);
            touches(house(ENDS, 2, 6, 7, 12), 0, DROP, 7, 1 + 1);
            touches(house(ENDS, 2, 6, 7, 12), 0, DROP, 5, 1 + 1);
        });
    }

    static void having() {
        sentence("has x: nothing more, if x is not above the least or not below the greatest, or its ROOM is empty; else "
                + "TOUCHES of the lower half in the ROOM.", () -> {
            touchesFrom(house(ENDS, 2, 7, 12), HAS, 0, 1, 1, 1, 1, 2, 2, 2, 2, 1, 1, 1, 1, 1, 1, 1, 1);
            touchesFrom(house(ENDS, 5, 6, 7), HAS, 3, 1, 1, 1, 2, 1, 1);
            touchesFrom(house(ENDS, 7), HAS, 6, 1, 1, 1);
            touchesFrom(house(ENDS, 4, 7), HAS, 3, 1, 1, 1, 1, 1, 1);
        });
    }

    static void goingUp() {
        sentence("next x (the least NUMBER above x): nothing more, if x is below the least, not below the greatest, or "
                + "nothing is INSIDE.", () -> {
            touchesFrom(house(ENDS, 2, 7, 12), NEXT, -1, 1, 1, 1, 3);
            touchesFrom(house(ENDS, 2, 7, 12), NEXT, 11, 2, 1, 1, 1, 1);
            touchesFrom(house(ENDS, 2, 12), NEXT, -1, 1, 1, 1, 1, 1, 1, 1, 1, 1, 1, 1, 1, 1, 1, 1, 1, 1);
            touchesFrom(house(ENDS, 7), NEXT, 6, 1, 1, 1);
            touches(house(ENDS, 5, 6, 12), 0, NEXT, 4, 1);
            touches(house(ENDS, 2, 5, 6), 0, NEXT, 6, 1);
            touches(house(ENDS, 2, 5, 6), 0, NEXT, 7, 1);
        });
        sentence("Else, if x's ROOM is not empty: 1, and if the lower half of x is below the greatest in it, TOUCHES of "
                + "next of that there, and no more.", () -> {
            // 5 and 6 in ROOM 1: 4 and 5 are below 6, 6 and 7 are not.
            touchesFrom(house(ENDS, 2, 5, 6, 12), NEXT, 4, 3, 3, 3, 3);
            touchesFrom(house(ENDS, 2, 5, 6, 9, 12), NEXT, 4, 3, 3, 4, 4);
        });
        sentence("Else TOUCHES of next of the upper half in the LIST, and, if there is one, 1.", () -> {
            HalvingHouse x = house(ENDS, 2, 7, 12);
            touchesFrom(x, NEXT, 2, 3, 3);
            touchesFrom(x, NEXT, 7, 3, 2, 2, 2, 2);
            touchesFrom(house(ENDS, 2, 7, 9, 12), NEXT, 7, 4);
            touchesFrom(house(ENDS, 0, 9, 12), NEXT, 0, 3, 3, 3, 3, 3, 3, 3, 3, 3);
        });
    }

    static void goingDown() {
        sentence("before x likewise, the other way round (above the greatest, not above the least; ..).", () -> {
            touchesFrom(house(ENDS, 2, 7, 12), BEFORE, 12, 3, 1, 1, 1, 1);
            touchesFrom(house(ENDS, 2, 7, 12), BEFORE, 0, 1, 1, 1, 2);
            touchesFrom(house(ENDS, 2, 12), BEFORE, 0, 1, 1, 1, 1, 1, 1, 1, 1, 1, 1, 1, 1, 1, 1, 1, 1, 1);
            touchesFrom(house(ENDS, 7), BEFORE, 6, 1, 1, 1);
            touches(house(ENDS, 5, 6, 12), 0, BEFORE, 4, 1);
            touches(house(ENDS, 5, 6, 12), 0, BEFORE, 5, 1);
            touches(house(ENDS, 2, 5, 6), 0, BEFORE, 7, 1);
        });
        sentence("before x likewise, the other way round (..; above the least in the ROOM).", () -> {
            // 5 and 6 in ROOM 1: 6 and 7 are above 5, 4 and 5 are not.
            touchesFrom(house(ENDS, 2, 5, 6, 12), BEFORE, 4, 3, 3, 3, 3);
            touchesFrom(house(ENDS, 0, 3, 5, 6, 12), BEFORE, 4, 4, 4, 3, 3);
            touchesFrom(house(ENDS, 2, 7, 12), BEFORE, 8, 3, 3, 3, 3, 3);
            touchesFrom(house(ENDS, 2, 7, 12), BEFORE, 3, 2, 3, 3, 3, 3);
        });
    }

    // ---------------------------------------------------------------- BITS, SORTED

    static void rowOfBits() {
        sentence("TOUCHES: put, drop, has: 1; (BITS)", () -> {
            HalvingHouse x = house("wide 6;", 31, 32);
            for (int call = PUT; call <= HAS; call++) {
                for (int number : new int[] {0, 31, 32, 63}) {
                    touches(x, 1, call, number, 1);
                }
            }
            due("empty", x.touches(1, DROP, 0, 1), 1);
        });
        sentence("next, before: words from that of x and 1 (x less 1) on, to the one that has it, or the last (first) "
                + "one;", () -> {
            HalvingHouse x = house("wide 7;");
            touches(x, 1, NEXT, -1, 4);
            touches(x, 1, NEXT, 30, 4);
            touches(x, 1, NEXT, 31, 3);
            touches(x, 1, NEXT, 126, 1);
            touches(x, 1, BEFORE, 128, 4);
            touches(x, 1, BEFORE, 97, 4);
            touches(x, 1, BEFORE, 96, 3);
            touches(x, 1, BEFORE, 1, 1);
            fill(x, 0, 63, 64);
            touches(x, 1, NEXT, -1, 2);
            touches(x, 1, NEXT, 62, 1);
            touches(x, 1, NEXT, 63, 1);
            touches(x, 1, NEXT, 64, 2);
            touches(x, 1, BEFORE, 128, 2);
            touches(x, 1, BEFORE, 65, 1);
            touches(x, 1, BEFORE, 64, 1);
            touches(x, 1, BEFORE, 63, 2);
        });
        sentence("0, if x is the greatest (the least, 0) of W bits.", () -> {
            HalvingHouse small = house("wide 2;", 0, 3);
            touches(small, 1, NEXT, 3, 0);
            touches(small, 1, NEXT, 2, 1);
            touches(small, 1, BEFORE, 0, 0);
            touches(small, 1, BEFORE, 1, 1);
            HalvingHouse great = house("wide 16;");
            touches(great, 1, NEXT, 65535, 0);
            touches(great, 1, NEXT, 65534, 1);
            touches(great, 1, NEXT, -1, 2048);
            touches(great, 1, BEFORE, 0, 0);
            touches(great, 1, BEFORE, 65536, 2048);
        });
    }

    static void sortedRow() {
        sentence("SEARCH for x: of places from a (0) to ahead of b (n), as long as a is below b", () -> {
            HalvingHouse x = house("wide 4;");
            touches(x, 2, HAS, 0, 0);
            touches(x, 2, HAS, 15, 0);
            x.put(0, 7);
            // One place is TOUCHED, and once more if a NUMBER is at a.
            touches(x, 2, HAS, 6, 2);
            touches(x, 2, HAS, 7, 2);
            touches(x, 2, HAS, 8, 1);
        });
        sentence("the middle (a and b by 2, cut) is TOUCHED: if its NUMBER is below x, a becomes it and 1, else b; it "
                + "ends at a.", () -> {
            // Of four places 2 first: behind it 3; ahead of it 1, then 0 if that is not below x.
            HalvingHouse x = house("wide 4;", 2, 5, 9, 12);
            touches(x, 2, HAS, 0, 3 + 1);
            touches(x, 2, HAS, 2, 3 + 1);
            touches(x, 2, HAS, 3, 3 + 1);
            touches(x, 2, HAS, 6, 2 + 1);
            touches(x, 2, HAS, 9, 2 + 1);
            touches(x, 2, HAS, 10, 2 + 1);
            touches(x, 2, HAS, 12, 2 + 1);
            touches(x, 2, HAS, 13, 2);
        });
        sentence("TOUCHES: those of the SEARCH (put, drop, has, before: for x; next: for x and 1), and 1, if there is a "
                + "NUMBER at a (before: if a is above 0);", () -> {
            HalvingHouse x = house("wide 4;", 7);
            touches(x, 2, NEXT, -1, 2);
            touches(x, 2, NEXT, 6, 2);
            touches(x, 2, NEXT, 7, 1);
            touches(x, 2, NEXT, 15, 1);
            touches(x, 2, BEFORE, 0, 1);
            touches(x, 2, BEFORE, 7, 1);
            touches(x, 2, BEFORE, 8, 2);
            touches(x, 2, BEFORE, 16, 2);
            HalvingHouse empty = house("wide 4;");
            touches(empty, 2, NEXT, -1, 0);
            touches(empty, 2, BEFORE, 16, 0);
        });
        sentence("put, if x is new: n less a and 1 more; drop, if it is there: n less a less 1 more.", () -> {
            HalvingHouse x = house("wide 4;", 7, 9);
            touches(house("wide 4;"), 2, PUT, 7, 1);
            touches(house("wide 4;"), 2, DROP, 7, 0);
            touches(x, 2, PUT, 0, 2 + 1 + 3);
            touches(x, 2, PUT, 7, 2 + 1);
            touches(x, 2, PUT, 8, 2 + 1 + 2);
            touches(x, 2, PUT, 9, 2 + 1);
            touches(x, 2, PUT, 15, 1 + 1);
            touches(x, 2, DROP, 0, 2 + 1);
            touches(x, 2, DROP, 7, 2 + 1 + 1);
            touches(x, 2, DROP, 8, 2 + 1);
            touches(x, 2, DROP, 9, 2 + 1);
            touches(x, 2, DROP, 15, 1);
        });
    }

    static void touchesRefused() {
        sentence("IllegalArgumentException: also the call, the KIND.", () -> {
            HalvingHouse x = house("wide 4;", 7, 9);
            noArgument(x, "call -1", () -> x.touches(0, -1, 7, 0));
            noArgument(x, "call 5", () -> x.touches(0, 5, 7, 0));
            noArgument(x, "kind -1", () -> x.touches(0, PUT, 7, -1));
            noArgument(x, "kind 3", () -> x.touches(0, PUT, 7, 3));
            noHouse(x, "house -1", () -> x.touches(-1, PUT, 7, 0));
            noHouse(x, "house 4", () -> x.touches(4, PUT, 7, 0));
        });
        sentence("no NUMBER of W bits, x below -1 (touches)", () -> {
            HalvingHouse x = house("wide 4;", 7, 9);
            for (int kind = 0; kind < 3; kind++) {
                int by = kind;
                for (int call = PUT; call <= HAS; call++) {
                    int which = call;
                    noArgument(x, "-1 of " + call, () -> x.touches(0, which, -1, by));
                    noArgument(x, "16 of " + call, () -> x.touches(0, which, 16, by));
                }
                noArgument(x, "next -2", () -> x.touches(0, NEXT, -2, by));
                noArgument(x, "next 16", () -> x.touches(0, NEXT, 16, by));
                noArgument(x, "before -1", () -> x.touches(0, BEFORE, -1, by));
                noArgument(x, "before 17", () -> x.touches(0, BEFORE, 17, by));
            }
            due("next -1 is none of these", x.touches(0, NEXT, -1, 2), 3);
            due("before 16 is none of these", x.touches(0, BEFORE, 16, 2), 2);
        });
        sentence("TOUCHES that a call .. would take now", () -> {
            HalvingHouse x = house(ENDS, 7, 9);
            for (int kind = 0; kind < 3; kind++) {
                for (int call = PUT; call <= BEFORE; call++) {
                    x.touches(0, call, 7, kind);
                    x.touches(0, call, 8, kind);
                }
            }
            holds(x, 0, 7, 9);
            due("CHANGES", x.of(0, 3), 2);
            due("ROOM", x.room(0, 0), 2);
        });
    }

    // ---------------------------------------------------------------- Promises 17 to 19

    static void boundsAre(String shape, int... dues) {
        HalvingHouse x = house(shape);
        for (int call = PUT; call <= BEFORE; call++) {
            due("bound(" + call + ") of " + shape, x.bound(call), dues[call]);
        }
    }

    static void bounds() {
        sentence("BOUND of HALVES for w bits, with u and l those of its halves: 1 of an END;", () -> {
            boundsAre("wide 5;ends 5;", 1, 1, 1, 1, 1);
            boundsAre("wide 2;ends 5;", 1, 1, 1, 1, 1);
            boundsAre("wide 2;ends 2;", 1, 1, 1, 1, 1);
            boundsAre("wide 2;ends 1;", 3, 5, 2, 4, 4);
            boundsAre("wide 6;ends 5;", 3, 5, 2, 4, 4);
            // 3 bits as 2 and 1 with an END of 1: u has the BOUND of 2 bits, or l has.
            boundsAre("wide 3;", 5, 9, 2, 7, 7);
            boundsAre("wide 3;upper less;", 4, 8, 3, 6, 6);
            boundsAre("wide 16;", 9, 17, 5, 13, 13);
            boundsAre("wide 16;ends 5;", 5, 9, 3, 7, 7);
        });
        sentence("BOUND of a call for W. (another call)", () -> {
            HalvingHouse x = house("wide 16;", 3);
            noArgument(x, "-1", () -> x.bound(-1));
            noArgument(x, "5", () -> x.bound(5));
            noArgument(x, "the least", () -> x.bound(Integer.MIN_VALUE));
            noArgument(x, "the greatest", () -> x.bound(Integer.MAX_VALUE));
        });
    }

    static void worstIs(String shape, int call, int n, int touched, int x, int... set) {
        HalvingHouse of = house(shape);
        String what = " of call " + call + " for " + n + ", " + shape;
        due("TOUCHES" + what, of.worst(call, n, 0), touched);
        due("NUMBERS" + what, of.worst(call, n, 1), set.length);
        due("x" + what, of.worst(call, n, 2), x);
        for (int k = 0; k < set.length; k++) {
            due("NUMBER " + k + what, of.bad(call, n, k), set[k]);
        }
        due("a NUMBER more" + what, of.bad(call, n, set.length), -1);
    }

    static void worst() {
        sentence("WORST of a call (put, drop, has, next, before) for n: over all sets of at most n NUMBERS and all x the "
                + "most TOUCHES by HALVES;", () -> {
            for (int call = PUT; call <= BEFORE; call++) {
                worstIs("wide 4;", call, 0, 1, 0);
                worstIs("wide 4;", call, 1, 1, 0);
                worstIs("wide 6;", call, 0, 1, 0);
                worstIs("wide 4;ends 4;", call, 16, 1, 0);
            }
            worstIs("wide 2;", PUT, 1, 1, 0);
            worstIs("wide 2;", PUT, 2, 3, 2, 0, 1);
            worstIs("wide 2;", DROP, 2, 1, 0);
            worstIs("wide 2;", DROP, 3, 5, 0, 0, 1, 2);
            worstIs("wide 2;", HAS, 3, 2, 1, 0, 1, 2);
        });
        sentence("of those that have them the set of the fewest NUMBERS, of these the least by bits (NUMBER 0 the "
                + "lowest), of these the least x.", () -> {
            worstIs("wide 2;", PUT, 16, 3, 2, 0, 1);
            worstIs("wide 2;", DROP, 16, 5, 0, 0, 1, 2);
            worstIs("wide 4;ends 2;", PUT, 16, 3, 2, 0, 1);
            worstIs("wide 4;", PUT, 16, 5, 9, 0, 1, 4, 8);
            worstIs("wide 6;ends 3;", DROP, 3, 5, 0, 0, 1, 2);
            // next of 1 in the LIST of 0, 1, 2, 3 takes 4, behind ROOM 1, which 4 is the greatest of.
            worstIs("wide 4;", NEXT, 16, 7, 4, 0, 1, 4, 8, 12, 13);
            worstIs("wide 4;", NEXT, 6, 7, 4, 0, 1, 4, 8, 12, 13);
            worstIs("wide 4;", BEFORE, 16, 7, 8, 0, 1, 4, 8, 12, 13);
        });
        sentence("(W to 4 with n to 16; W 5 or 6 with n to 3.)", () -> {
            for (int wide = 2; wide <= 4; wide++) {
                due("n 16", house("wide " + wide + ";").worst(PUT, 16, 0) >= 3, true);
                due("n 16", house("wide " + wide + ";").bad(PUT, 16, 0), 0);
            }
            for (int wide = 5; wide <= 6; wide++) {
                due("n 3", house("wide " + wide + ";").worst(DROP, 3, 0), 5);
                due("n 3", house("wide " + wide + ";").bad(DROP, 3, 0), 0);
            }
        });
    }

    static void worstRefused() {
        sentence("IllegalArgumentException: also n (0 to 16, or to 3), or W is above 6. (worst)", () -> {
            for (int wide = 2; wide <= 16; wide++) {
                HalvingHouse x = house("wide " + wide + ";");
                int least = wide <= 4 ? 17 : wide <= 6 ? 4 : 0;
                noArgument(x, "n " + least + " of " + wide, () -> x.worst(PUT, least, 0));
                noArgument(x, "n -1 of " + wide, () -> x.worst(PUT, -1, 0));
                noArgument(x, "n the greatest", () -> x.worst(PUT, Integer.MAX_VALUE, 0));
                noArgument(x, "n the least", () -> x.worst(PUT, Integer.MIN_VALUE, 0));
            }
        });
        sentence("another call, another what (worst)", () -> {
            HalvingHouse x = house("wide 4;");
            noArgument(x, "call -1", () -> x.worst(-1, 3, 0));
            noArgument(x, "call 5", () -> x.worst(5, 3, 0));
            noArgument(x, "what -1", () -> x.worst(PUT, 3, -1));
            noArgument(x, "what 3", () -> x.worst(PUT, 3, 3));
        });
    }

    static void bad() {
        sentence("The k-th NUMBER of the WORST set; NONE: not so many.", () -> {
            HalvingHouse x = house("wide 2;");
            due("0", x.bad(DROP, 16, 0), 0);
            due("2", x.bad(DROP, 16, 2), 2);
            due("3", x.bad(DROP, 16, 3), -1);
            due("-1", x.bad(DROP, 16, -1), -1);
            due("the least", x.bad(DROP, 16, Integer.MIN_VALUE), -1);
            due("the greatest", x.bad(DROP, 16, Integer.MAX_VALUE), -1);
            due("0 of an empty set", x.bad(DROP, 0, 0), -1);
        });
        sentence("IllegalArgumentException: also n (0 to 16, or to 3), or W is above 6. (bad)", () -> {
            for (int wide = 2; wide <= 16; wide++) {
                HalvingHouse x = house("wide " + wide + ";");
                int least = wide <= 4 ? 17 : wide <= 6 ? 4 : 0;
                noArgument(x, "n " + least + " of " + wide, () -> x.bad(PUT, least, 0));
                noArgument(x, "n -1 of " + wide, () -> x.bad(PUT, -1, 0));
            }
            HalvingHouse x = house("wide 4;");
            noArgument(x, "call -1", () -> x.bad(-1, 3, 0));
            noArgument(x, "call 5", () -> x.bad(5, 3, 0));
        });
    }

    // ---------------------------------------------------------------- Promises 27 to 29

    static void reached() {
        sentence("REACHED is BOUND of a call: the least n for which the WORST for n has as many TOUCHES (n as there).", () -> {
            due("an END", house("wide 4;ends 4;").reached(DROP), 0);
            HalvingHouse x = house("wide 2;");
            due("put", x.reached(PUT), 2);
            due("drop", x.reached(DROP), 3);
            due("has", x.reached(HAS), 3);
            due("next", x.reached(NEXT), 4);
            due("before", x.reached(BEFORE), 4);
        });
        sentence("REACHED; NONE: not for any such n.", () -> {
            // Reached by four NUMBERS: too many for 6 bits.
            due("6 bits", house("wide 6;ends 5;").reached(NEXT), -1);
            due("6 bits, three are enough", house("wide 6;ends 5;").reached(DROP), 3);
            // A ROOM of 2 bits and a LIST of 1 take 5 at most together, the BOUND is 6.
            due("3 bits", house("wide 3;upper less;").reached(NEXT), -1);
        });
        sentence("IllegalArgumentException: W is above 6. (reached)", () -> {
            due("6", house("wide 6;ends 5;").reached(PUT), 2);
            for (int wide = 7; wide <= 16; wide++) {
                HalvingHouse x = house("wide " + wide + ";");
                noArgument(x, "W " + wide, () -> x.reached(PUT));
            }
            HalvingHouse x = house("wide 4;");
            noArgument(x, "call -1", () -> x.reached(-1));
            noArgument(x, "call 5", () -> x.reached(5));
        });
    }

    static void rowIs(String shape, int sum, int... calls) {
        HalvingHouse x = house(shape);
        due("row of " + calls.length + ", " + shape, x.row(calls.length), sum);
        for (int k = 0; k < calls.length; k++) {
            due("rowCall " + k + " of " + calls.length + ", " + shape, x.rowCall(calls.length, k), calls[k]);
        }
        due("rowCall behind the last", x.rowCall(calls.length, calls.length), -1);
    }

    static void rows() {
        sentence("A ROW of n calls at an empty house (1 to 6, W to 4; 1 or 2, W 5 or 6)", () -> {
            rowIs("wide 4;ends 2;", 1, 0);
            rowIs("wide 6;", 1, 0);
            rowIs("wide 6;", 2, 0, 0);
            rowIs("wide 5;", 2, 0, 0);
            rowIs("wide 4;ends 4;", 6, 0, 0, 0, 0, 0, 0);
            // The house's own NUMBERS do not matter.
            due("a house that is not empty", house("wide 2;", 0, 1, 2).row(1), 1);
            due("six calls of 2 bits", house("wide 2;").row(6), 18);
        });
        sentence("that by which TOUCHES by HALVES of all are most together; of these the first, call by call (put 0, put "
                + "1, .., then drop 0, .., has, next, before).", () -> {
            rowIs("wide 2;", 5, 0, 1, 2);
            rowIs("wide 2;", 10, 0, 1, 2, 100);
            rowIs("wide 4;ends 2;", 10, 0, 1, 2, 100);
        });
        sentence("The k-th call of the ROW: 100 times which, and x; NONE: none such.", () -> {
            HalvingHouse x = house("wide 2;");
            due("the first", x.rowCall(4, 0), 0);
            due("the last", x.rowCall(4, 3), 100);
            due("behind it", x.rowCall(4, 4), -1);
            due("of one", x.rowCall(1, 1), -1);
            due("-1", x.rowCall(4, -1), -1);
            due("the least", x.rowCall(4, Integer.MIN_VALUE), -1);
            due("the greatest", x.rowCall(4, Integer.MAX_VALUE), -1);
        });
    }

    static void rowsRefused() {
        sentence("IllegalArgumentException: n, or W is above 6 (so below).", () -> {
            for (int wide = 2; wide <= 16; wide++) {
                HalvingHouse x = house("wide " + wide + ";");
                int least = wide <= 4 ? 7 : wide <= 6 ? 3 : 1;
                noArgument(x, "row " + least + " of " + wide, () -> x.row(least));
                noArgument(x, "row 0 of " + wide, () -> x.row(0));
                noArgument(x, "row -1 of " + wide, () -> x.row(-1));
                noArgument(x, "row of the greatest", () -> x.row(Integer.MAX_VALUE));
                noArgument(x, "rowCall " + least + " of " + wide, () -> x.rowCall(least, 0));
                noArgument(x, "rowCall 0 of " + wide, () -> x.rowCall(0, 0));
                noArgument(x, "rowCall -1 of " + wide, () -> x.rowCall(-1, -1));
                noArgument(x, "rowCall of the least", () -> x.rowCall(Integer.MIN_VALUE, 0));
            }
        });
    }
}
