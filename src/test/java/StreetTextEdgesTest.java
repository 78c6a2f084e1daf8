/** The edges of a STREET's text (Terms, part 1), and of promises 1 to 5. */
public final class StreetTextEdgesTest {
    private static final String EIGHT_AND_SIX = "h;h;h;h;h;h;h;h;f;f;f;f;f;f";

    private static void fault(String text, int want) {
        Check.due("fault(0) of <" + text + ">", Check.fault(0, text), want);
    }

    private static void rulesOneAtMost() {
        Check.by("s (its RULES; one at most); a second s at it");
        fault("h;h;f", -1);
        fault("s;h;h;f", -1);
        fault("h;h;f;s", -1);
        fault("s;s;h;h;f", 2);
        fault("s;h;h;f;s", 8);
        fault("sd1;h;h;f; sd1", 11);
    }

    private static void housesTwoToEight() {
        Check.by("h (a HOUSE; 2 .. 8); a ninth h at it");
        fault("f", 1);
        fault("h;f", 3);
        fault("f;h", 3);
        fault("h;h;f", -1);
        fault("h;h;h;h;h;h;h;f", -1);
        fault("h;h;h;h;h;h;h;h;f", -1);
        fault("h;h;h;h;h;h;h;h;h;f", 16);
        fault("f;h;h;h;h;h;h;h;h; hm1", 19);
        Check.due("text(0) of two", textOf("h;h;f"), 2);
        Check.due("text(0) of eight", textOf("h;h;h;h;h;h;h;h;f"), 8);
        Check.due("text(0) of one", textOf("h;f"), -1);
        Check.due("text(0) of nine", textOf("h;h;h;h;h;h;h;h;h;f"), -1);
    }

    private static int textOf(String text) {
        StainStreet x = new StainStreet();
        Check.feed(x, text);
        return x.text(0);
    }

    private static void formsOneToSix() {
        Check.by("f (a FORM; 1 .. 6); a seventh f at it");
        fault("h;h", 3);
        fault("h;h;f", -1);
        fault("h;h;f;f;f;f;f;f", -1);
        fault("h;h;f;f;f;f;f;f;f", 16);
        fault("h;h;f;f;f;f;f;f;  f", 18);
        Check.due("FORMS, one", Check.street("h;h;f").count(1), 1);
        Check.due("FORMS, six", Check.street("f;f;f;h;h;f;f;f").count(1), 6);
    }

    private static void inAnyOrder() {
        Check.by("s, h, f, in any order");
        String[] clauses = {"sc7", "hm1", "hm2", "ft4"};
        for (int order = 0; order < 256; order++) {
            int[] at = {order & 3, order >> 2 & 3, order >> 4 & 3, order >> 6};
            if ((1 << at[0] | 1 << at[1] | 1 << at[2] | 1 << at[3]) != 15) {
                continue;
            }
            String text = clauses[at[0]] + ";" + clauses[at[1]] + ";" + clauses[at[2]] + ";" + clauses[at[3]];
            boolean lowFirst = text.indexOf("m1") < text.indexOf("m2");
            StainStreet x = Check.street(text);
            Check.dueAll(text, new int[] {x.rule(3), x.house(0, 0), x.house(1, 0), x.form(0, 0)},
                    7, lowFirst ? 1 : 2, lowFirst ? 2 : 1, 4);
        }
    }

    private static void lettersOnce() {
        Check.by("a letter, each once at most in a CLAUSE; a letter that was there at it");
        for (String letters : new String[] {"sdhfc", "hmwgp", "ftn"}) {
            String clause = letters.substring(0, 1);
            for (String letter : letters.substring(1).split("")) {
                fault(clause + letter + "1" + letter + "1", 3);
                fault(clause + letter + "1" + letter, 3);
                fault(clause + " " + letter + " 1 " + letter, 6);
            }
        }
        fault("hm1w1g1p1m1", 9);
        fault("sd1h1f1c1h1", 9);
        fault("ft1n1n1", 5);
        fault("hm1w1g1p1;hm1w1g1p1;ft1n1;ft1n1", -1);
    }

    /** The fault of the text with each one byte behind it: there, but for those by which it can go on. */
    private static void oneByteMore(String text, String goesOn, String wholeWith) {
        for (int sign = 1; sign < 256; sign++) {
            int due = text.length();
            if (wholeWith.indexOf(sign) >= 0) {
                due = -1;
            } else if (goesOn.indexOf(sign) >= 0) {
                due = text.length() + 1;
            }
            fault(text + (char) sign, due);
        }
    }

    private static void firstByteThatIsWrong() {
        Check.by("FAULT: the first byte at which no such TEXT can go on");
        oneByteMore("", " shf", "");
        oneByteMore("s", " ;dhfc", "");
        oneByteMore("h", " ;mwgp", "");
        oneByteMore("f", " ;tn", "");
        oneByteMore("sd", " 123456789", "");
        oneByteMore("sh", " 012345678", "");
        oneByteMore("sf", " 012345", "");
        oneByteMore("sc", " 0123456789", "");
        oneByteMore("hm", " 0123456789", "");
        oneByteMore("hm0", " ;0123456789wgp", "");
        oneByteMore("ft", " 123456789", "");
        oneByteMore("fn", " 012345", "");
        oneByteMore("sc12", " ;dhf", "");
        oneByteMore("sc1 ", " ;dhf", "");
        oneByteMore("s;", " hf", "");
        oneByteMore("h;h;", " sh", "f");
        oneByteMore("h;h;f", ";tn", " ");
        oneByteMore("h;h;s;f;", " ", "hf");
        oneByteMore("h;h;ft1", ";n", " ");
    }

    private static void tooEarly() {
        Check.by("the length, if it ends too early");
        String text = "s d3h1f1c50;hm1w2g3p4 ; h;ft3n1;f";
        for (int length = 0; length < text.length(); length++) {
            fault(text.substring(0, length), length);
        }
        fault(text, -1);
        fault(text + "  ", -1);
        fault("h;h;f;", 6);
        fault("h;h;f;   ", 9);
        fault("  ", 2);
    }

    private static void notTold() {
        Check.by("the length, with a HOUSE where it is (not 8) that is not told");
        fault("sh0;h;h;f", -1);
        fault("sh1;h;h;f", -1);
        fault("sh2;h;h;f", 9);
        fault("sh7;h;h;f", 9);
        fault("sh8;h;h;f", -1);
        fault("sh6;h;h;h;h;h;h;h;f", -1);
        fault("sh7;h;h;h;h;h;h;h;f", 19);
        fault("sh7;h;h;h;h;h;h;h;h;f", -1);
        fault("h;h;f;sh2", 9);
        Check.by("the length, with a FORM, at first or that follows, that is not told");
        fault("sf0;h;h;f", -1);
        fault("sf1;h;h;f", 9);
        fault("sf4;h;h;f;f;f;f;f", -1);
        fault("sf5;h;h;f;f;f;f;f", 17);
        fault("sf5;h;h;f;f;f;f;f;f", -1);
        fault("h;h;fn0", -1);
        fault("h;h;fn1", 7);
        fault("h;h;fn1;f", -1);
        fault("h;h;f;fn1", -1);
        fault("h;h;f;fn2", 9);
        fault("h;h;f;f;f;f;fn5", 15);
        fault("h;h;fn5;f;f;f;f;f", -1);
        Check.by("FAULT: the first byte, ahead of what is not told");
        fault("sh2;h;h;fn1;s", 12);
        fault("sh2;h;h;fn1;", 12);
    }

    private static String spelt(int value, int digits) {
        return digits == 2 && value < 10 ? "0" + value : "" + value;
    }

    /** All numbers of one and of two digits for one ITEM. */
    private static void bounds(String clause, String rest, int low, int high) {
        for (int value = 0; value < 100; value++) {
            for (int digits = value < 10 ? 1 : 2; digits < 3; digits++) {
                String number = spelt(value, digits);
                boolean within = value >= low && value <= high;
                fault(clause + number + rest, within ? -1 : clause.length() + number.length() - 1);
            }
        }
        for (String number : new String[] {"000", "001", "100", "990", "999", "0000", "1234"}) {
            fault(clause + number + rest, clause.length() + 2);
        }
        String above = "" + (high + 1);
        fault(clause + " " + above + rest, clause.length() + above.length());
        fault(clause + rest, clause.length());
    }

    private static void numbers() {
        Check.by("a number (one or two digits); out of bounds is wrong at its last digit, a third digit itself");
        bounds("sd", ";" + EIGHT_AND_SIX, 1, 9);
        bounds("sh", ";" + EIGHT_AND_SIX, 0, 8);
        bounds("sf", ";" + EIGHT_AND_SIX, 0, 5);
        bounds("sc", ";" + EIGHT_AND_SIX, 0, 99);
        bounds("h;hm", ";f", 0, 9);
        bounds("h;hw", ";f", 0, 9);
        bounds("h;hg", ";f", 0, 9);
        bounds("h;hp", ";f", 0, 9);
        bounds("h;h;ft", ";f", 1, 9);
        bounds("h;h;f;f;f;f;f;fn", ";s", 0, 5);
    }

    private static void whatIsTold() {
        Check.by("the least and the most of each ITEM");
        StainStreet low = Check.street("sd1h0f0c0;hm0w0g0p0;h;ft1n0");
        StainStreet high = Check.street("sd9h8f5c99;hm9w9g9p9;h;f;f;f;f;f;ft9n5");
        Check.dueAll("s, low", new int[] {low.rule(0), low.rule(1), low.rule(2), low.rule(3)}, 1, 0, 0, 0);
        Check.dueAll("s, high", new int[] {high.rule(0), high.rule(1), high.rule(2), high.rule(3)}, 9, 8, 5, 99);
        Check.dueAll("h, low", new int[] {low.house(0, 0), low.house(0, 1), low.house(0, 2), low.house(0, 3)},
                0, 0, 0, 0);
        Check.dueAll("h, high", new int[] {high.house(0, 0), high.house(0, 1), high.house(0, 2), high.house(0, 3)},
                9, 9, 9, 9);
        Check.dueAll("f", new int[] {low.form(0, 0), low.form(0, 1), high.form(5, 0), high.form(5, 1)}, 1, 0, 9, 5);
        Check.by("without an ITEM: d 3, h 8, f 0, c 20, m 3, w 0, g 0, p 2, t 3, n 0");
        for (String text : new String[] {"h;h;f;f", "s;h;h;f;f"}) {
            StainStreet x = Check.street(text);
            Check.dueAll("s", new int[] {x.rule(0), x.rule(1), x.rule(2), x.rule(3)}, 3, 8, 0, 20);
            Check.dueAll("h", new int[] {x.house(1, 0), x.house(1, 1), x.house(1, 2), x.house(1, 3)}, 3, 0, 0, 2);
            Check.dueAll("f", new int[] {x.form(1, 0), x.form(1, 1)}, 3, 0);
        }
    }

    private static void blanks() {
        Check.by("Blanks (32) may stand between all signs, not within numbers");
        String text = "sd3h1f1c5;hm1w2g3p4;h;ft3n1;f";
        for (int at = 0; at <= text.length(); at++) {
            fault(text.substring(0, at) + " " + text.substring(at), -1);
            fault(text.substring(0, at) + "   " + text.substring(at), -1);
        }
        fault("sc12;h;h;f", -1);
        fault("sc1 2;h;h;f", 4);
        fault("hm0   1;h;f", 6);
        for (int sign : new int[] {9, 10, 11, 12, 13, 31, 33, 127, 128, 160, 255}) {
            fault("h;" + (char) sign + "h;f", 2);
        }
    }

    private static void newObject() {
        Check.by("1: No STREET");
        StainStreet x = new StainStreet();
        Check.dueAll("count", new int[] {x.count(0), x.count(1), x.count(2), x.count(3), x.count(4)}, 0, 0, 0, 0, -1);
        Check.due("rule(1)", x.rule(1), -1);
        Check.due("house(0, 0)", Twins.house(x, 0, 0), Twins.THROWS);
        Check.due("text(0)", x.text(0), -1);
    }

    private static void feeding() {
        Check.by("2: of each number the highest first");
        StainStreet x = new StainStreet();
        Check.due("feed", x.feed(0x68636867, 0x3b686d31, 0x3b66743b, 0, 0), 12);
        Check.due("the second byte is c", x.fault(0), 1);
        x.end(0);
        x.feed(0x683b6873, 0x68000000, 0, 0, 0);
        Check.due("the fourth byte is s, the fifth h", x.fault(0), 3);
        Check.by("2: bytes of 0 are left out");
        x.end(0);
        Check.due("feed of one", x.feed(0, 0, 0x6800, 0, 0), 1);
        Check.due("feed of none", x.feed(0, 0, 0, 0, 0), 1);
        Check.due("feed of four", x.feed(0x3b, 0x68000000, 0x3b0000, 0, 0x66), 5);
        Check.due("fault(0)", x.fault(0), -1);
        Check.due("feed of twenty, the highest bit set", x.feed(-1, -1, -1, -1, -1), 25);
        Check.due("fault(0)", x.fault(0), 5);
    }

    private static StainStreet fedBlanks(int bytes) {
        StainStreet x = new StainStreet();
        for (int i = 0; i < bytes / 20; i++) {
            x.feed(0x20202020, 0x20202020, 0x20202020, 0x20202020, 0x20202020);
        }
        for (int i = 0; i < bytes % 20; i++) {
            x.feed(0, 0, 0x200000, 0, 0);
        }
        return x;
    }

    private static void feedingToTheFull() {
        Check.by("2: NONE: more than 240");
        Check.due("feed of the last twenty", fedBlanks(220).feed(-1, -1, -1, -1, -1), 240);
        Check.due("feed of one to 239", fedBlanks(239).feed(0, 0, 0, 0, 1), 240);
        Check.due("feed of none to 240", fedBlanks(240).feed(0, 0, 0, 0, 0), 240);
        Check.due("count(3)", fedBlanks(240).count(3), 240);
        Twins.refused("feed of twenty to 221", () -> fedBlanks(221), x -> x.feed(-1, -1, -1, -1, -1), -1, -1);
        Twins.refused("feed of two to 239", () -> fedBlanks(239), x -> x.feed(0x20000000, 0, 0, 0, 32), -1, -1);
        Twins.refused("feed of one to 240", () -> fedBlanks(240), x -> x.feed(0, 0x2000, 0, 0, 0), -1, -1);
        Twins.refused("feed of twenty to 240", () -> fedBlanks(240), x -> x.feed(-1, -1, -1, -1, -1), -1, -1);
        StainStreet full = fedBlanks(235);
        full.feed(0x683b683b, 0x66000000, 0, 0, 0);
        Check.due("text(0) of 240 bytes", full.text(0), 2);
        Check.due("the tape is empty then", full.feed(0x20202020, 0, 0, 0, 0), 4);
    }

    private static StainStreet fed(String text) {
        StainStreet x = new StainStreet();
        Check.feed(x, text);
        return x;
    }

    private static void ending() {
        Check.by("3: The TAPE has its first n bytes alone. False: n");
        for (int n : new int[] {-1, 8, 240, 241, Integer.MIN_VALUE, Integer.MAX_VALUE}) {
            Twins.refused("end(" + n + ") of seven", () -> fed("h;h;f;h"), x -> x.end(n) ? 1 : 0, 0, -1);
        }
        for (int n = 0; n < 8; n++) {
            StainStreet x = fed("h;h;f;h");
            Check.due("end(" + n + ") of seven", x.end(n), true);
            Check.due("count(3)", x.count(3), n);
            Check.due("end(" + (n + 1) + ") of " + n, x.end(n + 1), false);
        }
        Twins.refused("end(1) of none", StainStreet::new, x -> x.end(1) ? 1 : 0, 0, -1);
        Twins.refused("end(-1) of none", StainStreet::new, x -> x.end(-1) ? 1 : 0, 0, -1);
        Check.due("end(0) of none", new StainStreet().end(0), true);
        StainStreet x = fed("h;h;f;h");
        x.end(4);
        Check.feed(x, "fn0");
        Check.due("what was cut off does not come again", x.fault(0), -1);
    }

    private static void faults() {
        Check.by("4: NONE: none. -2: no such sort");
        Check.due("fault(0) of none", new StainStreet().fault(0), 0);
        Check.due("fault(1) of none", new StainStreet().fault(1), 0);
        for (int sort : new int[] {-2, -1, 2, 3, Integer.MIN_VALUE, Integer.MAX_VALUE}) {
            Twins.refused("fault(" + sort + ")", () -> fed("h;h;f"), x -> x.fault(sort), -2, -1);
            Check.due("fault(" + sort + ") of none", new StainStreet().fault(sort), -2);
        }
        Check.by("4: it is asked, and changes nothing");
        Twins.changesNothing("fault(0)", StreetTextEdgesTest::livedIn, x -> x.fault(0));
        Twins.changesNothing("fault(1)", StreetTextEdgesTest::livedIn, x -> x.fault(1));
    }

    /** A street with all that another street does away with, and bytes on the tape. */
    private static StainStreet livedIn() {
        StainStreet x = Check.street("sd2h0c99;hm5;hm4;hm3p3;fn1;fn2;ft7n0");
        Check.law(x, "y:m+t-g");
        Check.feed(x, "y:7");
        x.text(1);
        x.moods(4);
        x.days(5);
        x.image();
        x.sham(1, 2);
        x.hang(0, 3);
        x.piano(2);
        x.seen(2, 1, true);
        x.was(1, 1, true);
        x.sham(9, 0);
        x.days(61);
        x.piano(2);
        x.hang(0, 10);
        Check.feed(x, "sd1;hm1;hm2;f");
        return x;
    }

    private static void textsOfStreets() {
        Check.by("5: NONE: a FAULT, no such sort");
        for (String text : new String[] {"", "h;f", "sh2;h;h;f", "h;h;fx", "y:m"}) {
            Twins.refused("text(0) of <" + text + ">", () -> cutTo(livedIn(), text), x -> x.text(0), -1, -1);
        }
        for (int sort : new int[] {-1, 2, Integer.MIN_VALUE, Integer.MAX_VALUE}) {
            Twins.refused("text(" + sort + ")", StreetTextEdgesTest::livedIn, x -> x.text(sort), -1, -1);
        }
        Twins.refused("text(1) of a street", StreetTextEdgesTest::livedIn, x -> x.text(1), -1, -1);
        Check.by("5: all that was of another one, SEEN, WAS, too, is gone but LAWS, which holds, MOODS, STATUS");
        StainStreet x = livedIn();
        int[] statuses = Check.statuses(x);
        Check.due("text(0)", x.text(0), 2);
        int[] counts = new int[12];
        for (int what = 0; what < 12; what++) {
            counts[what] = x.count(what);
        }
        Check.dueAll("count", counts, 2, 1, 2, 0, 0, 0, 4, 0, 0, 0, 0, 0);
        Check.dueAll("STATUS", Check.statuses(x), statuses);
        Check.dueAll("rules", new int[] {x.rule(0), x.rule(1), x.rule(2), x.rule(3)}, 1, 8, 0, 20);
        Check.dueAll("MIND", Check.ofHouses(x, 0), 1, 2);
        Check.dueAll("HANGINGS", Check.ofHouses(x, 2), 0, 0);
        Check.dueAll("PEOPLE", Check.ofHouses(x, 3), 2, 2);
        Check.dueAll("SHAM", Check.ofHouses(x, 4), 0, 0);
        Check.dueAll("MINDED by the LAW that held", Check.ofHouses(x, 6), 4, 5);
        Check.dueAll("nothing to undo, no image, no log, no third house",
                new int[] {x.undo(), x.back(), x.log(0, 0), x.near(2)}, -1, -1, -1000000, -1);
        Check.dueAll("SEEN, WAS", new int[] {x.who(1, -1), x.forms()}, 3, 1);
    }

    private static StainStreet cutTo(StainStreet x, String text) {
        x.end(0);
        Check.feed(x, text);
        return x;
    }

    private static void sameStreetAgain() {
        Check.by("5: the STREET (DAY 0)");
        StainStreet x = Check.street("sd1h0;hm5;hm4;fn1;f");
        x.days(3);
        Check.feed(x, "sd1h0;hm5;hm4;fn1;f");
        Check.due("text(0)", x.text(0), 2);
        Check.dueAll("as at first", new int[] {x.count(5), x.rule(1), x.rule(2), x.house(0, 0), x.house(1, 0),
            x.count(10), x.count(11)}, 0, 0, 0, 5, 4, 0, 0);
    }

    public static void main(String[] args) {
        rulesOneAtMost();
        housesTwoToEight();
        formsOneToSix();
        inAnyOrder();
        lettersOnce();
        firstByteThatIsWrong();
        tooEarly();
        notTold();
        numbers();
        whatIsTold();
        blanks();
        newObject();
        feeding();
        feedingToTheFull();
        ending();
        faults();
        textsOfStreets();
        sameStreetAgain();
        Check.end("StreetTextEdgesTest");
    }
}
