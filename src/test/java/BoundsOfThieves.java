/** A test for each sentence of the document that names a boundary case of THIEVES at work: promises 26 and 32. */
public final class BoundsOfThieves extends Sentences {
    public static void main(String[] args) {
        reckoning();
        hearing();
        drawing();
        endings();
        nothingStays();
        whatIsTold();
        refused();
        seeds();
        seedsRefused();
        end("bounds of thieves");
    }

    /** What a THIEF leaves in an empty house: dropping what is due leaves none, and there are so many. */
    static void leaves(String shape, String text, int seed, int... numbers) {
        HalvingHouse x = house(shape);
        StringBuilder drops = new StringBuilder(text);
        for (int number : numbers) {
            drops.append("drop ").append(number).append(';');
        }
        thief(x, text);
        thief(x, drops.toString());
        due("NUMBERS of " + text, x.steals(0, 0, seed, 6), numbers.length);
        due("NUMBERS that are not due of " + text, x.steals(1, 0, seed, 6), 0);
    }

    static int drawn(int seed) {
        return seed >>> 8 & 65535;
    }

    static int after(int seed) {
        return seed * 1103515245 + 12345;
    }

    // ---------------------------------------------------------------- what E says

    static void reckoning() {
        sentence("each call with the lowest W bits of what E says", () -> {
            leaves("wide 2;", "put 3;put 4;", 0, 0, 3);
            leaves("wide 16;", "put 65535;put 65536;", 0, 0, 65535);
            leaves("wide 4;", "put 0-1;", 0, 15);
            leaves("wide 16;", "put 0-65535;", 0, 1);
            // -1 is the greatest NUMBER also for next, 2 to the W is 0 also for before.
            leaves("wide 4;", "put 3;next 0-1;put last+9;before 16;put last+11;", 0, 3, 8, 10);
        });
        sentence("(whole numbers of 32 bits that wrap;", () -> {
            // 46341 times itself is 2147488281: above the greatest of 32 bits, so it is -2147479015.
            leaves("wide 16;", "put 46341*46341%1000+500;", 0, -2147479015 % 1000 + 500);
            leaves("wide 16;", "put 46340*46340%1000;", 0, 2147395600 % 1000);
            // 65536 times 32768 is the least number, less 1 of it the greatest one.
            leaves("wide 16;", "put (65536*32768-1)%1000;", 0, 2147483647 % 1000);
            leaves("wide 16;", "put (65536*32767+65535+1)%1000+700;", 0, -2147483648 % 1000 + 700);
            leaves("wide 16;", "put 65536*65536+7;", 0, 7);
        });
        sentence("% by 0 is 0, else what / leaves)", () -> {
            leaves("wide 4;", "put 7%0;", 0, 0);
            leaves("wide 4;", "put 0%0+1;", 0, 1);
            leaves("wide 4;", "put 7%(3-3)*5+2;", 0, 2);
            leaves("wide 4;", "put 7%1;put 7%7+1;put 7%8;", 0, 0, 1, 7);
            leaves("wide 4;", "put (0-7)%4+8;", 0, 5);
            leaves("wide 4;", "put 7%(0-4);", 0, 3);
            leaves("wide 4;", "put 65536*32768%(0-1)+6;", 0, 6);
        });
    }

    static void hearing() {
        sentence("last: what the latest call answered (put, drop, has: 1 or 0: whether it changed, is there; next, "
                + "before: the NUMBER, or -1; 0 at first)", () -> {
            leaves("wide 8;", "put last+10;", 0, 10);
            leaves("wide 8;", "put 5;put last+10;", 0, 5, 11);
            leaves("wide 8;", "put 5;put 5;put last+10;", 0, 5, 10);
            leaves("wide 8;", "put 5;drop 5;put last+10;", 0, 11);
            leaves("wide 8;", "drop 5;put last+10;", 0, 10);
            leaves("wide 8;", "put 5;has 5;put last+10;", 0, 5, 11);
            leaves("wide 8;", "put 5;has 6;put last+10;", 0, 5, 10);
            leaves("wide 8;", "put 5;next 4;put last+10;", 0, 5, 15);
            leaves("wide 8;", "put 5;next 5;put last+10;", 0, 5, 9);
            leaves("wide 8;", "put 5;before 6;put last+10;", 0, 5, 15);
            leaves("wide 8;", "put 5;before 5;put last+10;", 0, 5, 9);
            leaves("wide 8;", "put 0;next 255;put last+1;", 0, 0);
        });
        sentence("many: how many NUMBERS there are;", () -> {
            leaves("wide 8;", "put many+7;put many+7;drop 7;put many+7;", 0, 8);
            HalvingHouse x = house("wide 4;", 1, 2, 3);
            thief(x, "put many+7;drop 10;");
            due("with those that were there", x.steals(0, 0, 0, 6), 3);
        });
    }

    static void drawing() {
        sentence("draw: a DRAW below 2 to the W: the SEED (32 bits) becomes itself times 1,103,515,245, and 12,345 (it "
                + "wraps); what its bits 8 to 23 leave by that.", () -> {
            // 12345 is 48 times 256 and some; 1103515245 + 12345 is 1103527590.
            leaves("wide 16;", "put draw;", 0, 12345 / 256);
            leaves("wide 16;", "put draw;", 1, 1103527590 / 256 % 65536);
            leaves("wide 2;", "put draw;", 1, 1103527590 / 256 % 4);
            for (int seed : new int[] {-1, Integer.MAX_VALUE, Integer.MIN_VALUE, 987654321}) {
                int first = after(seed);
                int second = after(first);
                leaves("wide 16;", "put draw;put draw;", seed, drawn(first), drawn(second));
                leaves("wide 3;", "put draw*0+draw;", seed, drawn(second) % 8);
            }
        });
    }

    static void endings() {
        sentence("It ends behind 2,000 calls", () -> {
            HalvingHouse x = house("wide 4;");
            thief(x, "times 99[times 20[has 1;]]times 20[has 1;]put 7;");
            thief(x, "times 99[times 20[has 1;]]times 19[has 1;]put 7;has 1;");
            thief(x, "times 99[times 99[times 99[next 1;]]]");
            due("2,000 and a put behind them", x.steals(0, 0, 0, 0), 2000);
            due("no put", x.steals(0, 0, 0, 6), 0);
            due("1,999 and a put, and one more", x.steals(1, 0, 0, 0), 2000);
            due("the put", x.steals(1, 0, 0, 6), 1);
            due("a million", x.steals(2, 0, 0, 0), 2000);
            due("their TOUCHES", x.steals(2, 0, 0, 1), 2000);
        });
        sentence("or ahead of a put that finds 2,000 NUMBERS.", () -> {
            HalvingHouse x = house("wide 16;", 60000, 60001, 60002);
            thief(x, "times 99[times 99[put 99*o+i;]]");
            due("1,997 puts to 2,000", x.steals(0, 0, 0, 0), 1997);
            due("2,000", x.steals(0, 0, 0, 6), 2000);
            due("2,000 puts at an empty house", x.steals(0, 1, 0, 0), 2000);
            due("2,000 there", x.steals(0, 1, 0, 6), 2000);
            thief(x, "times 99[times 20[put 20*o+i;]]times 17[put 2000+i;]has 1;drop 1;has 1;put 1;");
            due("others than put go on at 2,000", x.steals(1, 0, 0, 0), 2000);
            due("a drop makes place", x.steals(1, 0, 0, 6), 1999);
            thief(x, "times 99[times 20[put 20*o+i;]]times 17[put 2000+i;]has 1;put 1;has 1;");
            due("a put of what is there finds them, too", x.steals(2, 0, 0, 0), 1998);
            thief(x, "times 99[times 20[put 20*o+i;]]times 16[put 2000+i;]put 2999;put 3000;");
            due("at 1,999 there is place", x.steals(3, 0, 0, 0), 1997);
        });
    }

    static void nothingStays() {
        sentence("Nothing stays changed; no CHANGE counts.", () -> {
            HalvingHouse x = house("wide 4;", 3, 9);
            thief(x, "put 5;drop 3;put 1;");
            for (int what = 0; what <= 6; what++) {
                x.steals(0, 0, 1, what);
            }
            x.seeds(0, 0, 1, 20, 0);
            holds(x, 0, 3, 9);
            due("CHANGES", x.of(0, 3), 2);
            due("ROOM", x.room(0, 0), 2);
            due("5 never came", x.since(0, 5, 0), -1);
            due("the same again", x.steals(0, 0, 1, 6), 3);
            HalvingHouse full = house("wide 8;");
            makeChanges(full, 0, 1, 1000);
            thief(full, "put 5;put 6;");
            due("at 1,000 CHANGES", full.steals(0, 0, 0, 6), 2);
            due("no put of one's own", full.put(0, 5), -2);
        });
    }

    // ---------------------------------------------------------------- Promise 26

    static void whatIsTold() {
        sentence("0 how many calls, 1 TOUCHES of all by HALVES, 2 the most of one call, 3 the first such call (from 0 on; "
                + "NONE without)", () -> {
            HalvingHouse x = house("wide 4;ends 2;", 2, 7, 12);
            thief(x, "times 99[]");
            int[] none = {0, 0, 0, -1, 0, 0, 3};
            for (int what = 0; what <= 6; what++) {
                due("without a call, " + what, x.steals(0, 0, 0, what), none[what]);
            }
            thief(x, "has 0;has 15;");
            due("calls", x.steals(1, 0, 0, 0), 2);
            due("TOUCHES", x.steals(1, 0, 0, 1), 2);
            due("the most", x.steals(1, 0, 0, 2), 1);
            due("the first of two alike", x.steals(1, 0, 0, 3), 0);
            // has 7: 2; drop 8: 1; next 6 and 5: 3; has 0: 1.
            thief(x, "has 7;drop 8;next 6;next 5;has 0;");
            due("TOUCHES", x.steals(2, 0, 0, 1), 2 + 1 + 3 + 3 + 1);
            due("the most", x.steals(2, 0, 0, 2), 3);
            due("the first of the most", x.steals(2, 0, 0, 3), 2);
        });
        sentence("4 and 5 TOUCHES of all by BITS, SORTED, 6 NUMBERS then.", () -> {
            HalvingHouse x = house("wide 6;", 7);
            // next 63 and before 0: 0; next 7: 2 words. SORTED: a place each, and 1 if there is one.
            thief(x, "next 63;before 0;next 7;");
            due("BITS", x.steals(0, 0, 0, 4), 2);
            due("SORTED", x.steals(0, 0, 0, 5), 1 + 1 + 1);
            due("NUMBERS", x.steals(0, 0, 0, 6), 1);
            // At an empty house: put 1, 1; then drop of it 1, 2 (a place, and 1); NUMBERS are gone.
            thief(x, "put 9;drop 9;");
            due("BITS", x.steals(1, 1, 0, 4), 2);
            due("SORTED", x.steals(1, 1, 0, 5), 1 + 2);
            due("NUMBERS", x.steals(1, 1, 0, 6), 0);
        });
    }

    static void refused() {
        sentence("NoSuchElementException: no such THIEF. (steals)", () -> {
            HalvingHouse x = house("wide 4;");
            noThief(x, "0 of none", () -> x.steals(0, 0, 0, 0));
            thief(x, "has 1;");
            due("0 of one", x.steals(0, 0, 0, 0), 1);
            noThief(x, "1 of one", () -> x.steals(1, 0, 0, 0));
            noThief(x, "-1", () -> x.steals(-1, 0, 0, 0));
            noThief(x, "the least", () -> x.steals(Integer.MIN_VALUE, 0, 0, 0));
            noThief(x, "the greatest", () -> x.steals(Integer.MAX_VALUE, 0, 0, 0));
            thief(x, "has 1;");
            thief(x, "has 1;");
            thief(x, "has 1;");
            due("3 of four", x.steals(3, 0, 0, 0), 1);
            noThief(x, "4 of four", () -> x.steals(4, 0, 0, 0));
        });
        sentence("another what, no such house (steals)", () -> {
            HalvingHouse x = house("wide 4;");
            thief(x, "has 1;");
            noArgument(x, "what -1", () -> x.steals(0, 0, 0, -1));
            noArgument(x, "what 7", () -> x.steals(0, 0, 0, 7));
            noHouse(x, "-1", () -> x.steals(0, -1, 0, 0));
            noHouse(x, "4", () -> x.steals(0, 4, 0, 0));
        });
    }

    // ---------------------------------------------------------------- Promise 32

    static void seeds() {
        sentence("SEEDS: of m (1 to 20): s, s and 1, .. (wrapping) that by which the call of the most TOUCHES of a THIEF "
                + "has most, of these the first.", () -> {
            // INSIDE is 1 alone: has takes 2 of what is in ROOM 0 but for the least, 1 of all others.
            HalvingHouse x = house("wide 4;ends 2;", 0, 1, 15);
            thief(x, "has draw%4+draw*0;");
            thief(x, "next draw*0+16-1;");
            thief(x, "times 5[]");
            for (int s : new int[] {0, -5, Integer.MAX_VALUE, Integer.MAX_VALUE - 10, Integer.MIN_VALUE}) {
                for (int m : new int[] {1, 2, 3, 20}) {
                    int best = 0;
                    int most = 0;
                    for (int i = 0; i < m; i++) {
                        int touched = drawn(after(s + i)) % 4 == 0 ? 1 : 2;
                        best = touched > most ? i : best;
                        most = Math.max(touched, most);
                    }
                    due("seed less " + s + " of " + m, x.seeds(0, 0, s, m, 0), best);
                    due("TOUCHES of " + s + ", " + m, x.seeds(0, 0, s, m, 1), most);
                }
            }
            due("all alike: the first", x.seeds(1, 0, 9, 20, 0), 0);
            due("all alike", x.seeds(1, 0, 9, 20, 1), 1);
            due("without a call: the first", x.seeds(2, 0, 9, 20, 0), 0);
            due("without a call", x.seeds(2, 0, 9, 20, 1), 0);
        });
        sentence("SEEDS: of m (1 to 20): .. s and 1, .. (the last one)", () -> {
            // 20 seeds of which the last one alone makes a call of 2.
            HalvingHouse x = house("wide 10;ends 5;", 0, 1, 1023);
            thief(x, "has draw*draw;");
            int s = 0;
            while (s < 100000 && firstOfTwo(s) != 19) {
                s++;
            }
            due("of 20", x.seeds(0, 0, s, 20, 0), 19);
            due("of 20, TOUCHES", x.seeds(0, 0, s, 20, 1), 2);
            due("of 19", x.seeds(0, 0, s, 19, 0), 0);
            due("of 19, TOUCHES", x.seeds(0, 0, s, 19, 1), 1);
            due("the last one alone", x.seeds(0, 0, s + 19, 1, 0), 0);
            due("the last one alone, TOUCHES", x.seeds(0, 0, s + 19, 1, 1), 2);
        });
    }

    /** The first of 20 seeds by which has takes 2: of 1 to 31 alone, which are in ROOM 0 with 1; -1: none. */
    static int firstOfTwo(int s) {
        for (int i = 0; i < 20; i++) {
            int first = after(s + i);
            int number = drawn(first) % 1024 * (drawn(after(first)) % 1024) % 1024;
            if (number >= 1 && number <= 31) {
                return i;
            }
        }
        return -1;
    }

    static void seedsRefused() {
        sentence("NoSuchElementException: no such THIEF. (seeds)", () -> {
            HalvingHouse x = house("wide 4;");
            noThief(x, "0 of none", () -> x.seeds(0, 0, 0, 1, 0));
            thief(x, "has 1;");
            noThief(x, "1 of one", () -> x.seeds(1, 0, 0, 1, 0));
            noThief(x, "-1", () -> x.seeds(-1, 0, 0, 1, 0));
        });
        sentence("IllegalArgumentException: m, what.", () -> {
            HalvingHouse x = house("wide 4;");
            thief(x, "has 1;");
            noArgument(x, "m 0", () -> x.seeds(0, 0, 0, 0, 0));
            noArgument(x, "m 21", () -> x.seeds(0, 0, 0, 21, 0));
            noArgument(x, "m -1", () -> x.seeds(0, 0, 0, -1, 0));
            noArgument(x, "m the greatest", () -> x.seeds(0, 0, 0, Integer.MAX_VALUE, 0));
            noArgument(x, "what -1", () -> x.seeds(0, 0, 0, 1, -1));
            noArgument(x, "what 2", () -> x.seeds(0, 0, 0, 1, 2));
            due("m 1", x.seeds(0, 0, 0, 1, 0), 0);
            due("m 20", x.seeds(0, 0, 0, 20, 1), 1);
        });
        sentence("no such house (seeds)", () -> {
            HalvingHouse x = house("wide 4;");
            thief(x, "has 1;");
            noHouse(x, "-1", () -> x.seeds(0, -1, 0, 1, 0));
            noHouse(x, "4", () -> x.seeds(0, 4, 0, 1, 0));
        });
    }
}
