/**
 * A test for each sentence of the document that names a boundary case of the TAPE and of the two texts: the Terms'
 * first part, and promises 1 to 6.
 */
public final class BoundsOfTexts extends Sentences {
    private static final String SIXTY = "has 1;".repeat(60);

    public static void main(String[] args) {
        shapeClauses();
        thiefSteps();
        reckonings();
        tokens();
        faults();
        severalFaults();
        newObject();
        feeding();
        tellingShapes();
        refusedShapes();
        tellingThieves();
        placesOfFaults();
        whatIsTold();
        end("bounds of texts");
    }

    static void shapeIs(String text, int wide, int upperMore, int ends) {
        HalvingHouse x = new HalvingHouse();
        due("shape of " + text, shape(x, text), wide);
        due("W of " + text, x.told(0), wide);
        due("upper of " + text, x.told(1), upperMore);
        due("E of " + text, x.told(2), ends);
        due("fault of " + text, x.fault(), -1);
    }

    static void shapeFails(String text, int fault, int place) {
        HalvingHouse x = new HalvingHouse();
        due("shape of " + text, shape(x, text), fault - 10);
        due("fault of " + text, x.fault(), place);
    }

    static void thiefStands(String text) {
        HalvingHouse x = new HalvingHouse();
        due("thief of " + text, thief(x, text), 0);
        due("fault of " + text, x.fault(), -1);
    }

    static void thiefFails(String text, int fault, int place) {
        HalvingHouse x = new HalvingHouse();
        due("thief of " + text, thief(x, text), fault - 10);
        due("fault of " + text, x.fault(), place);
        due("THIEVES behind " + text, x.told(3), 0);
    }

    /** A THIEF's only call is a put of a value into an empty house of 16 bits. */
    static void valueIs(String e, int value) {
        HalvingHouse x = house("wide 16;");
        thief(x, "put " + e + ";");
        thief(x, "put " + e + ";drop " + value + ";");
        due("NUMBERS behind put " + e, x.steals(0, 0, 0, 6), 1);
        due("NUMBERS but " + value + " behind put " + e, x.steals(1, 0, 0, 6), 0);
    }

    static String padded(String text, int length) {
        return " ".repeat(length - text.length()) + text;
    }

    // ---------------------------------------------------------------- Terms

    static void shapeClauses() {
        sentence("TWO TEXTS of up to 500 bytes.", () -> {
            shapeIs(padded("ends 5;wide 16;", 500), 16, 1, 5);
            shapeFails(padded("wide 16", 500), 1, 500);
            HalvingHouse x = house("wide 16;", 248);
            due("thief of 500 bytes", thief(x, "put 1" + "+1".repeat(247) + ";"), 0);
            due("what it put was there", x.steals(0, 0, 0, 6), 1);
            thiefFails(padded("has 1", 500), 1, 500);
        });
        sentence("A SHAPE: { CLAUSE \";\" }", () -> {
            shapeIs("", 8, 1, 1);
            shapeIs("wide 3;ends 2;upper less;", 3, 0, 2);
            shapeIs("upper less;ends 2;wide 3;", 3, 0, 2);
            shapeFails(";", 1, 0);
            shapeFails("wide 3;;", 1, 7);
        });
        sentence("\"wide\" W (bits, 2 to 16; 8 without)", () -> {
            shapeFails("wide 0;", 2, 5);
            shapeFails("wide 1;", 2, 5);
            shapeIs("wide 2;", 2, 1, 1);
            shapeIs("wide 16;", 16, 1, 1);
            shapeFails("wide 17;", 2, 5);
            shapeIs("ends 3;", 8, 1, 3);
        });
        sentence("\"upper\" \"more\" or \"upper\" \"less\" (which half has one bit more, if they are odd: the upper or "
                + "the lower one; more without)", () -> {
            shapeIs("upper more;", 8, 1, 1);
            shapeIs("upper less;", 8, 0, 1);
            shapeIs("wide 5;", 5, 1, 1);
            shapeFails("upper ;", 1, 6);
            shapeFails("upper even;", 1, 6);
            // 3 bits as 2 and 1: 2 is 1,0; as 1 and 2: 2 is 0,2, beside 1 in one ROOM.
            due("more", house("wide 3;upper more;", 0, 2, 7).touches(0, PUT, 1, 0), 3);
            due("less", house("wide 3;upper less;", 0, 2, 7).touches(0, PUT, 1, 0), 2);
        });
        sentence("\"ends\" E (1 to 5; 1 without)", () -> {
            shapeFails("ends 0;", 2, 5);
            shapeIs("ends 1;", 8, 1, 1);
            shapeIs("ends 5;", 8, 1, 5);
            shapeFails("ends 6;", 2, 5);
            shapeIs("wide 9;", 9, 1, 1);
        });
        sentence("each once at most.", () -> {
            shapeFails("wide 4;wide 4;", 4, 7);
            shapeFails("upper more;upper less;", 4, 11);
            shapeFails("ends 2;wide 4; ends 3;", 4, 15);
        });
    }

    static void thiefSteps() {
        sentence("A THIEF: { STEP }, 1 to 60 STEPS.", () -> {
            thiefFails("", 1, 0);
            thiefStands("has 1;");
            thiefStands(SIXTY);
            thiefFails(SIXTY + "has 1;", 3, 360);
            thiefStands("times 1[" + SIXTY.substring(6) + "]");
            thiefFails("times 1[" + SIXTY + "]", 3, 8 + 59 * 6);
            thiefStands(SIXTY.substring(6) + "times 1[]");
        });
        sentence("\"times\" N \"[\" { STEP } \"]\" (N 1 to 99", () -> {
            thiefFails("times 0[has 1;]", 2, 6);
            thiefStands("times 1[has 1;]");
            thiefStands("times 99[has 1;]");
            thiefFails("times 100[has 1;]", 2, 6);
            HalvingHouse x = new HalvingHouse();
            thief(x, "times 1[has 1;]");
            thief(x, "times 99[has 1;]");
            due("calls of once", x.steals(0, 0, 0, 0), 1);
            due("calls of 99 times", x.steals(1, 0, 0, 0), 99);
        });
        sentence("3 within one another;", () -> {
            thiefStands("times 1[times 1[times 1[has 1;]]]");
            thiefFails("times 1[times 1[times 1[times 1[has 1;]]]]", 3, 24);
            thiefStands("times 1[times 1[times 1[]times 1[]]times 1[times 1[]]]times 1[]");
        });
        sentence("may have none).", () -> {
            thiefStands("times 1[]");
            HalvingHouse x = new HalvingHouse();
            thief(x, "times 99[times 99[times 99[]]times 9[]]");
            thief(x, "times 99[times 99[times 99[]]]has 1;times 2[times 99[]has i;]");
            due("calls", x.steals(0, 0, 0, 0), 0);
            due("calls beside", x.steals(1, 0, 0, 0), 3);
        });
    }

    static void reckonings() {
        sentence("U: N (0 to 99,999)", () -> {
            valueIs("0", 0);
            thiefStands("has 99999;");
            thiefFails("has 100000;", 2, 4);
            thiefFails("has 4294967296;", 2, 4);
            thiefFails("has 18446744073709551617;", 2, 4);
            valueIs("99999-90000", 9999);
        });
        sentence("\"i\" (how often the innermost times has been gone through; 0 outside)", () -> {
            valueIs("7+i", 7);
            HalvingHouse x = house("wide 4;");
            thief(x, "times 3[put i;]drop 0;drop 1;drop 2;times 2[put 4;]put i;drop 0;drop 4;");
            due("NUMBERS", x.steals(0, 0, 0, 6), 0);
        });
        sentence("\"o\" (of the one around that)", () -> {
            valueIs("7+o", 7);
            HalvingHouse x = house("wide 4;");
            thief(x, "times 3[put 7+o;]drop 7;");
            due("0 in a times alone", x.steals(0, 0, 0, 6), 0);
            thief(x, "times 3[times 2[put 7+o;]]drop 7;drop 8;drop 9;");
            due("of the one around", x.steals(1, 0, 0, 6), 0);
            thief(x, "times 3[times 2[times 2[put 7+o;]]]drop 7;drop 8;");
            due("not of the outermost of three", x.steals(2, 0, 0, 6), 0);
        });
    }

    static void tokens() {
        sentence("Numbers: digits, as many as stand there;", () -> {
            shapeIs("wide 0000000000000000000000016;", 16, 1, 1);
            shapeFails("wide 4294967298;", 2, 5);
            shapeFails("wide 18446744073709551618;", 2, 5);
            shapeFails("wide 20000000000000000000000000000000000000000;", 2, 5);
            shapeFails("wide 1 6;", 2, 5);
            shapeFails("wide 2 6;", 1, 7);
            valueIs("000000000000000000000000000000009", 9);
            thiefFails("has 9 9;", 1, 6);
        });
        sentence("WORDS: small letters, as many as stand there;", () -> {
            shapeIs("wide4;upper less;", 4, 0, 1);
            shapeFails("upperless;", 1, 0);
            shapeFails("wides 4;", 1, 0);
            shapeFails("widez 4;", 1, 0);
            shapeFails("widea 4;", 1, 0);
            shapeFails("wid 4;", 1, 0);
            shapeFails("Wide 4;", 1, 0);
            shapeFails("widE 4;", 1, 0);
            shapeFails("upper lesser;", 1, 6);
            thiefStands("put3;times2[has i;]");
            thiefFails("hasi;", 1, 0);
            thiefFails("has ii;", 1, 4);
            thiefFails("has io;", 1, 4);
            thiefFails("before1;next1;drop1;a1;", 1, 20);
        });
        sentence("blanks (32) may stand ahead of all these, and at the end.", () -> {
            shapeIs("   wide   4   ;   upper   less   ;   ", 4, 0, 1);
            shapeIs("     ", 8, 1, 1);
            thiefStands("  times  2  [  put  (  1  +  2  )  *  i  ;  ]  ");
            for (int other : new int[] {0, 9, 10, 13, 31, 33, 95, 127, 128, 160, 255}) {
                shapeFails("wide" + (char) other + "4;", 1, 4);
                shapeFails("wide 4;" + (char) other, 1, 7);
                thiefFails((char) other + "has 1;", 1, 0);
                thiefFails("has 1;" + (char) other, 1, 6);
            }
            for (int other : new int[] {'a' - 1, 'z' + 1, 'a' + 128}) {
                shapeFails("wide" + (char) other + " 4;", 1, 4);
            }
            for (int other : new int[] {'0' - 1, '9' + 1, '0' + 128}) {
                shapeFails("wide 4" + (char) other + ";", 1, 6);
                thiefFails("has " + (char) other + ";", 1, 4);
            }
        });
    }

    static void faults() {
        sentence("FAULTS, the first from the left, at its first byte:", () -> {
            shapeFails("wide 17;ends 9;", 2, 5);
            shapeFails("wide 4;wide 99;", 4, 7);
            shapeFails("wide 4;upper most;wide 4;", 1, 13);
            shapeFails("   wide    00017;", 2, 11);
            shapeFails("  ends 1 ;  ends", 4, 12);
            thiefFails("has 100000;has", 2, 4);
            thiefFails("has ;times 0[", 1, 4);
            thiefFails("times 0(has 100000;", 2, 6);
        });
        sentence("1 what can't stand there", () -> {
            shapeFails("4;", 1, 0);
            shapeFails("wide ends;", 1, 5);
            shapeFails("wide 4 ends 1;", 1, 7);
            shapeFails("put 1;", 1, 0);
            thiefFails("wide 4;", 1, 0);
            thiefFails("]", 1, 0);
            thiefFails("has 1;]", 1, 6);
            thiefFails("has -1;", 1, 4);
            thiefFails("has 1/2;", 1, 5);
            thiefFails("has ();", 1, 5);
            thiefFails("has (1];", 1, 6);
            thiefFails("has 1);", 1, 5);
            thiefFails("times i[]", 1, 6);
            thiefFails("times 2 has 1;", 1, 8);
            thiefFails("times 2[has 1]", 1, 13);
            thiefFails("has many last;", 1, 9);
        });
        sentence("(at the length, if the text ends too early, and of a THIEF of none)", () -> {
            shapeFails("wide", 1, 4);
            shapeFails("wide  ", 1, 6);
            shapeFails("wide 4", 1, 6);
            shapeFails("upper", 1, 5);
            shapeFails("upper more  ", 1, 12);
            thiefFails("", 1, 0);
            thiefFails("   ", 1, 3);
            thiefFails("has", 1, 3);
            thiefFails("has 1", 1, 5);
            thiefFails("has 1+", 1, 6);
            thiefFails("has 1* ", 1, 7);
            thiefFails("has (", 1, 5);
            thiefFails("has (1", 1, 6);
            thiefFails("times", 1, 5);
            thiefFails("times 2", 1, 7);
            thiefFails("times 2[", 1, 8);
            thiefFails("times 2[has 1;  ", 1, 16);
            HalvingHouse x = new HalvingHouse();
            feed(x, "wide 16;");
            due("only the first 7 bytes", x.shape(7), -9);
            due("at the length", x.fault(), 7);
        });
        sentence("2 a number that is none such;", () -> {
            shapeFails("wide 17;", 2, 5);
            shapeFails("wide 1;", 2, 5);
            shapeFails("ends 0;", 2, 5);
            shapeFails("ends 6;", 2, 5);
            thiefFails("has 1+100000;", 2, 6);
            thiefFails("times 0[]", 2, 6);
            thiefFails("times 100[]", 2, 6);
        });
        sentence("3 a STEP too many (a times, too; at its word)", () -> {
            for (String word : new String[] {"put", "drop", "has", "next", "before", "times"}) {
                thiefFails(SIXTY + "  " + word + " 1", 3, 362);
            }
            thiefFails("times 2[" + SIXTY.substring(6) + "]has 1;", 3, 8 + 59 * 6 + 1);
            thiefFails("times 2[" + SIXTY.substring(6) + "times 2[]]", 3, 8 + 59 * 6);
        });
        sentence("a 4th times or a 7th ( that is open at one time (at it);", () -> {
            thiefStands("has ((((((1))))));");
            thiefFails("has (((((((1)))))));", 3, 10);
            thiefFails("has 1+ (( ((((  (1)))))));", 3, 16);
            thiefStands("has ((((((1))))))+((((((1))))))*((((((1))))));");
            thiefStands("has ((((((1)+(2))+(3))+(4))+(5)));");
            thiefFails("times 9[ times 9[ times 9[  times 9[]]]]", 3, 28);
            thiefStands("times 9[times 9[times 9[]]]times 9[times 9[times 9[]]]");
        });
        sentence("4 a CLAUSE's word for the second time;", () -> {
            shapeFails("wide 4;wide", 4, 7);
            shapeFails("upper more; upper more;", 4, 12);
            shapeFails("ends 1;ends 1;", 4, 7);
            shapeFails("wide 4;ends 1;upper less;wide 4;", 4, 25);
        });
    }

    static void severalFaults() {
        sentence("of one the least.", () -> {
            // What can't stand there is 1, though it would be one too many as well, or there for the second time.
            thiefFails(SIXTY + "wide 4;", 1, 360);
            thiefFails(SIXTY + "7", 1, 360);
            thiefFails(SIXTY.substring(0, 359) + " has 1;", 1, 360);
            thiefFails("has ((((((1(", 1, 11);
            thiefFails("times 1[times 1[times 1[has times", 1, 28);
            shapeFails("wide 4 wide 4;", 1, 7);
            shapeFails("ends ends 1;", 1, 5);
            shapeFails("upper upper;", 1, 6);
        });
    }

    // ---------------------------------------------------------------- Promises 1 to 6

    static void newObject() {
        sentence("By a SHAPE without a text; all are empty.", () -> {
            HalvingHouse x = new HalvingHouse();
            due("W", x.told(0), 8);
            due("upper", x.told(1), 1);
            due("E", x.told(2), 1);
            due("THIEVES", x.told(3), 0);
            for (int house = 0; house < 4; house++) {
                due("NUMBERS", x.of(house, 0), 0);
                due("least", x.of(house, 1), -1);
                due("CHANGES", x.of(house, 3), 0);
            }
            due("IMAGES", x.count(0), 0);
            due("TAPE", x.count(1), 0);
            due("fault", x.fault(), -1);
            due("refusals", x.status(0) + x.status(1) + x.status(2), 0);
            due("greatest NUMBER", x.put(0, 255), 1);
            noArgument(x, "put(0, 256)", () -> x.put(0, 256));
        });
        sentence("An object is used for at most 512 calls after it has been made", () -> {
            HalvingHouse x = new HalvingHouse();
            for (int call = 1; call <= 511; call++) {
                x.put(call / 256, call % 256);
            }
            due("the 512th call", x.count(2), 511);
        });
    }

    static void feeding() {
        sentence("Twenty bytes come on the TAPE, of each number the highest first: how many there are;", () -> {
            HalvingHouse x = new HalvingHouse();
            // "wide", " 16;", "ends", " 5; ", "    "
            due("feed", x.feed(0x77696465, 0x2031363B, 0x656E6473, 0x20353B20, 0x20202020), 20);
            due("feed", x.feed(0x75707065, 0x72206C65, 0x73733B20, 0x20202020, 0x20202020), 40);
            due("shape", x.shape(40), 16);
            due("E", x.told(2), 5);
            due("upper", x.told(1), 0);
            x.feed(-1, 0, 0, 0, 0);
            due("a byte of 255", x.shape(1), -9);
            x.feed(0x2020207F, 0x80000000, 0, 0, 0);
            due("bytes of 127 and 128", x.shape(5), -9);
            due("at the first of them", x.fault(), 3);
        });
        sentence("NONE, doing nothing, if there would be more than 500.", () -> {
            HalvingHouse x = new HalvingHouse();
            feed(x, padded("wide 7;", 480));
            due("480", x.count(1), 480);
            due("500", x.feed(0x20202020, 0x20202020, 0x20202020, 0x20202020, 0x20202020), 500);
            due("520", x.feed(-1, -1, -1, -1, -1), -1);
            due("520 again", x.feed(-1, -1, -1, -1, -1), -1);
            due("still 500", x.count(1), 500);
            due("the 500 are as they were", x.shape(500), 7);
            due("place again", x.feed(0, 0, 0, 0, 0), 20);
        });
    }

    static void tellingShapes() {
        sentence("The first n bytes of the TAPE (empty then) are the SHAPE", () -> {
            HalvingHouse x = new HalvingHouse();
            feed(x, "wide 4;wide 5;");
            due("7 of 20", x.shape(7), 4);
            due("the TAPE", x.count(1), 0);
            due("0 of none", x.shape(0), 8);
            x.feed(0x77696465, 0, 0, 0, 0);
            due("a FAULT", x.shape(20), -9);
            due("the TAPE behind a FAULT", x.count(1), 0);
            x.feed(0x77696465, 0, 0, 0, 0);
            due("0 of 20", x.shape(0), 8);
            due("the TAPE behind 0 bytes", x.count(1), 0);
        });
        sentence("(all houses empty, no CHANGES, no IMAGES; THIEVES stay): W;", () -> {
            HalvingHouse x = house("wide 8;", 1, 2);
            fill(x, 1, 7);
            fill(x, 2, 8);
            fill(x, 3, 9);
            thief(x, "has 1;has 2;");
            x.image();
            x.image();
            due("the same SHAPE again", shape(x, "wide 8;"), 8);
            for (int house = 0; house < 4; house++) {
                holds(x, house);
                due("CHANGES", x.of(house, 3), 0);
                due("ROOM", x.room(house, 0), 0);
            }
            due("came", x.since(0, 1, 0), -1);
            due("IMAGES", x.count(0), 0);
            due("restore", x.restore(), -1);
            due("THIEVES", x.told(3), 1);
            due("its calls", x.steals(0, 0, 0, 0), 2);
        });
        sentence("CHANGES of a house (..): 1,000 at most, since the SHAPE was told.", () -> {
            HalvingHouse x = house("wide 8;");
            makeChanges(x, 0, 1, 1000);
            due("full", x.put(0, 1), -2);
            shape(x, "wide 8;");
            due("as new", x.put(0, 1), 1);
            due("CHANGES", x.of(0, 3), 1);
        });
        sentence("or the FAULT less 10 (all stays).", () -> {
            HalvingHouse x = house("wide 4;upper less;ends 2;", 3, 9);
            x.image();
            x.put(1, 5);
            thief(x, "has 1;");
            due("FAULT 4", shape(x, "wide 5;upper more;ends 1;wide"), -6);
            due("FAULT 2", shape(x, "ends 1;wide 17;"), -8);
            due("FAULT 1", shape(x, "wide 5;ends 3"), -9);
            due("W", x.told(0), 4);
            due("upper", x.told(1), 0);
            due("E", x.told(2), 2);
            due("THIEVES", x.told(3), 1);
            holds(x, 0, 3, 9);
            holds(x, 1, 5);
            due("CHANGES", x.of(0, 3), 2);
            due("IMAGES", x.count(0), 1);
            due("restore", x.restore(), 0);
            holds(x, 0, 3, 9);
            holds(x, 1);
        });
    }

    static void refusedShapes() {
        sentence("IllegalArgumentException: n is not 0 to the TAPE's bytes (it stays).", () -> {
            HalvingHouse x = house("wide 4;", 3);
            noArgument(x, "shape(1) of none", () -> x.shape(1));
            noArgument(x, "shape(-1) of none", () -> x.shape(-1));
            feed(x, padded("wide 7", 19) + ";");
            noArgument(x, "shape(21) of 20", () -> x.shape(21));
            noArgument(x, "shape(-1) of 20", () -> x.shape(-1));
            noArgument(x, "shape(the least)", () -> x.shape(Integer.MIN_VALUE));
            noArgument(x, "shape(the greatest)", () -> x.shape(Integer.MAX_VALUE));
            due("the TAPE", x.count(1), 20);
            due("W", x.told(0), 4);
            holds(x, 0, 3);
            due("all 20", x.shape(20), 7);
        });
    }

    static void tellingThieves() {
        sentence("Likewise a THIEF: its number, from 0 on;", () -> {
            HalvingHouse x = house("wide 4;", 3);
            x.image();
            feed(x, "has 1;has 2;has 3;");
            due("the first 12 of 20", x.thief(12), 0);
            due("the TAPE", x.count(1), 0);
            due("its calls", x.steals(0, 0, 0, 0), 2);
            for (int number = 1; number < 4; number++) {
                due("THIEF", thief(x, "has 1;".repeat(number + 2)), number);
                due("THIEVES", x.told(3), number + 1);
            }
            for (int number = 0; number < 4; number++) {
                due("calls", x.steals(number, 0, 0, 0), number + 2);
            }
            due("W stays", x.told(0), 4);
            holds(x, 0, 3);
            due("IMAGES stay", x.count(0), 1);
        });
        sentence("or the FAULT less 10;", () -> {
            HalvingHouse x = new HalvingHouse();
            thief(x, "has 1;");
            due("FAULT 1", thief(x, "has 1;has;"), -9);
            due("the TAPE", x.count(1), 0);
            due("FAULT 2", thief(x, "has 1;times 0[]"), -8);
            due("FAULT 3", thief(x, SIXTY + "has 1;"), -7);
            due("THIEVES", x.told(3), 1);
            noThief(x, "steals(1, ..)", () -> x.steals(1, 0, 0, 0));
            due("the one that stands", x.steals(0, 0, 0, 0), 1);
            due("the next one", thief(x, "has 1;has 2;"), 1);
        });
        sentence("-1: there are 4.", () -> {
            HalvingHouse x = new HalvingHouse();
            for (int number = 0; number < 4; number++) {
                due("THIEF", thief(x, "has 1;".repeat(number + 1)), number);
            }
            due("a fifth", thief(x, "put 7;put 8;put 9;put 1;put 2;put 3;"), -1);
            due("the TAPE", x.count(1), 0);
            due("no FAULT", x.fault(), -1);
            due("THIEVES", x.told(3), 4);
            due("a SHAPE brings no place", shape(x, ""), 8);
            due("a fifth again", thief(x, "put 7;"), -1);
            for (int number = 0; number < 4; number++) {
                due("calls", x.steals(number, 0, 0, 0), number + 1);
                due("NUMBERS", x.steals(number, 0, 0, 6), 0);
            }
            noThief(x, "steals(4, ..)", () -> x.steals(4, 0, 0, 0));
        });
        sentence("IllegalArgumentException of thief(): likewise, n is not 0 to the TAPE's bytes (it stays).", () -> {
            HalvingHouse x = new HalvingHouse();
            noArgument(x, "thief(1) of none", () -> x.thief(1));
            noArgument(x, "thief(-1) of none", () -> x.thief(-1));
            due("thief(0) of none", x.thief(0), -9);
            feed(x, padded("has 1;", 20));
            noArgument(x, "thief(21) of 20", () -> x.thief(21));
            noArgument(x, "thief(-1) of 20", () -> x.thief(-1));
            noArgument(x, "thief(the least)", () -> x.thief(Integer.MIN_VALUE));
            noArgument(x, "thief(the greatest)", () -> x.thief(Integer.MAX_VALUE));
            due("the TAPE", x.count(1), 20);
            due("all 20", x.thief(20), 0);
        });
    }

    static void placesOfFaults() {
        sentence("The place of the FAULT of the latest text; NONE without.", () -> {
            HalvingHouse x = new HalvingHouse();
            due("of no text", x.fault(), -1);
            shape(x, "wide 17;");
            due("of a SHAPE", x.fault(), 5);
            due("asked twice", x.fault(), 5);
            thief(x, "has 1");
            due("of a THIEF behind it", x.fault(), 5);
            thief(x, "7");
            due("at 0", x.fault(), 0);
            noArgument(x, "no text", () -> x.shape(1));
            due("behind a refused call", x.fault(), 0);
            thief(x, "has 1;");
            due("of a sound THIEF", x.fault(), -1);
            thief(x, padded("", 500));
            due("at 500", x.fault(), 500);
            shape(x, "");
            due("of a sound SHAPE", x.fault(), -1);
        });
    }

    static void whatIsTold() {
        sentence("0 W, 1 whether the upper half has one more (1, 0), 2 E, 3 THIEVES. IllegalArgumentException: another "
                + "what (so below).", () -> {
            HalvingHouse x = house("wide 16;upper less;ends 5;");
            due("W", x.told(0), 16);
            due("upper", x.told(1), 0);
            due("E", x.told(2), 5);
            due("THIEVES", x.told(3), 0);
            noArgument(x, "told(4)", () -> x.told(4));
            noArgument(x, "told(-1)", () -> x.told(-1));
            noArgument(x, "told(the least)", () -> x.told(Integer.MIN_VALUE));
            noArgument(x, "told(the greatest)", () -> x.told(Integer.MAX_VALUE));
        });
    }
}
