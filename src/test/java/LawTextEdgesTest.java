/** The edges of a LAW's text and of its WORTH (Terms, part 1), and of promises 4, 5 and 9 for LAWS. */
public final class LawTextEdgesTest {
    private static final String ATOMS = "mwgptd0123456789";

    private static void fault(String text, int want) {
        Check.due("fault(1) of <" + text + ">", Check.fault(1, text), want);
    }

    private static void clausesOneAtLeast() {
        Check.by("CLAUSES with ; between, one at least");
        fault("", 0);
        fault("   ", 3);
        fault(";", 0);
        fault("y:m", -1);
        fault("y:m;", 4);
        fault("y:m; ", 5);
        fault("y:m;y:w", -1);
        fault("y:m;;y:w", 4);
        fault(";y:m", 0);
        StringBuilder sixty = new StringBuilder("y:0");
        for (int i = 0; i < 59; i++) {
            sixty.append(";y:1");
        }
        fault(sixty.toString(), -1);
        fault(sixty + ";", 240);
    }

    /** The fault of the text with each one byte behind it: there, but for those by which it can go on. */
    private static void oneByteMore(String text, String goesOn, String wholeWith) {
        for (int sign = 1; sign < 256; sign++) {
            int due = text.length();
            if (wholeWith.indexOf(sign) >= 0) {
                due = -1;
            } else if (goesOn.indexOf(sign) >= 0) {
                due = text.length() + 1;
            }
            fault(text + (char) sign, due);
        }
    }

    private static void firstByteThatIsWrong() {
        Check.by("FAULT: the first byte at which no such TEXT can go on");
        oneByteMore("", " y", "");
        oneByteMore("y", " :", "");
        oneByteMore("y:", " [!(", ATOMS);
        oneByteMore("y: ", " [!(", ATOMS);
        oneByteMore("y:m", "+-*/=<>;", " ");
        oneByteMore("y:1", "+-*/=<>;", " 0123456789");
        oneByteMore("y:1234", "+-*/=<>;", " ");
        oneByteMore("y:12 ", "+-*/=<>;", " ");
        oneByteMore("y:m;", " y", "");
        oneByteMore("y:m+", " [", ATOMS);
        oneByteMore("y:m/", " [", ATOMS);
        oneByteMore("y:[", " [" + ATOMS, "");
        oneByteMore("y:[m", " +-*/", "]");
        oneByteMore("y:[m]", "+-*/=<>;", " ");
        oneByteMore("y:m=", " [" + ATOMS, "");
        oneByteMore("y:m=w", " +-*/|&?", "");
        oneByteMore("y:m<w|", " [!(" + ATOMS, "");
        oneByteMore("y:m>w&", " [!(" + ATOMS, "");
        oneByteMore("y:m>w&g", " +-*/=<>", "");
        oneByteMore("y:m=w?", " [", ATOMS);
        oneByteMore("y:m=w?p", "+-*/;", " ");
        oneByteMore("y:!", " [!(" + ATOMS, "");
        oneByteMore("y:!m", " +-*/=<>", "");
        oneByteMore("y:!m=w", " +-*/|&?", "");
        oneByteMore("y:(", " [!(" + ATOMS, "");
        oneByteMore("y:(m", " +-*/=<>", "");
        oneByteMore("y:(m=w", " +-*/|&)", "");
        oneByteMore("y:(m=w)", " |&?", "");
        oneByteMore("y:((m=w)", " |&)", "");
        oneByteMore("y:m=w|(m=w)", " |&?", "");
    }

    private static void tooEarly() {
        Check.by("the length, if it ends too early");
        String condition = "y : !(m=1|[w+2]*3<2)&g/2>1234? ";
        for (int length = 0; length <= condition.length(); length++) {
            fault(condition.substring(0, length), length);
        }
        fault(condition + "[p", condition.length() + 2);
        fault(condition + "[p]", -1);
        fault(condition + "[p]-", condition.length() + 4);
        fault(condition + "[p]-  ", condition.length() + 6);
        fault(condition + "[p]-1", -1);
    }

    private static void digits() {
        Check.by("a number (1 to 4 digits); a fifth digit itself, whatever stands ahead of it");
        for (String number : new String[] {"0", "9", "00", "99", "000", "999", "0000", "9999"}) {
            fault("y:" + number, -1);
            fault("y:[" + number + "]*" + number + ">" + number + "?" + number, -1);
        }
        for (String number : new String[] {"00000", "00001", "10000", "99999", "000000", "123456"}) {
            fault("y:" + number, 6);
            fault("y:m-" + number, 8);
            fault("y:m=" + number + "?1", 8);
            fault("y:m=1?[" + number + "]", 11);
        }
    }

    private static void lettersOfLaws() {
        Check.by("a letter (m w g p t d)");
        for (String letter : "mwgptd".split("")) {
            fault("y:" + letter, -1);
        }
        for (String letter : "abcefhijklnoqrsuvxyzMWGPTD".split("")) {
            fault("y:" + letter, 2);
            fault("y:1+" + letter, 4);
        }
    }

    private static void conditionBehindTheColon() {
        Check.by("A CLAUSE that goes on with ! or ( behind its : has a CONDITION");
        fault("y:!m", 4);
        fault("y:(m)", 4);
        fault("y:(m+1)*2", 6);
        fault("y:(m=1)", 7);
        fault("y:!(m=1)", 8);
        fault("y:(m=1);y:m", 7);
        fault("y: ! m=1?m", -1);
        fault("y: (m=1)?m", -1);
        fault("y:m=1?!m", 6);
        fault("y:m=1?(m)", 6);
    }

    private static String many(String sign, int times) {
        return sign.repeat(times);
    }

    private static void sixWithinOneAnother() {
        Check.by("At most six of ( [ ! within one another; a seventh of ( [ ! at it");
        for (int outer = 0; outer <= 6; outer++) {
            for (int kinds = 0; kinds < 1 << outer; kinds++) {
                StringBuilder open = new StringBuilder();
                for (int i = 0; i < outer; i++) {
                    open.append((kinds >> i & 1) == 0 ? '!' : '(');
                }
                int inner = 6 - outer;
                String closed = many(")", Integer.bitCount(kinds)) + "?1";
                fault("y:" + open + many("[", inner) + "m" + many("]", inner) + "=1" + closed, -1);
                fault("y:" + open + many("[", inner) + "[m" + many("]", inner + 1) + "=1" + closed, 8);
                fault("y:" + open + "m=" + many("[", inner) + "1" + many("]", inner) + closed, -1);
                fault("y:" + open + "m=" + many("[", inner) + "[1" + many("]", inner + 1) + closed, 10);
                if (outer == 6) {
                    fault("y:" + open + "!m=1" + closed, 8);
                    fault("y:" + open + "(m=1)" + closed, 8);
                }
            }
        }
        Check.by("six within one another, beside others");
        fault("y:[[[[[[m]]]]]]+[[[[[[m]]]]]]", -1);
        fault("y:[[[[[[m]+1]]]]+[m]]", -1);
        fault("y:[[[[[[m]+1]]]]+[m]]+[[[[[[[m", 28);
        fault("y:!!!!!!m=1&!!!!!!w=1|((((((m=1))))))?[[[[[[m]]]]]];y:[[[[[[m]]]]]]", -1);
        fault("y:!m=1&!m=1&!m=1&!m=1&!m=1&!m=1&!m=1&!m=1?1", -1);
    }

    private static void blanks() {
        Check.by("Blanks (32) may stand between all signs of both, not within numbers");
        String text = "y:!(m=1|[w]<2)&g>3?[p-1]*t/4+d;y:5";
        for (int at = 0; at <= text.length(); at++) {
            fault(text.substring(0, at) + " " + text.substring(at), -1);
            fault(text.substring(0, at) + "    " + text.substring(at), -1);
        }
        fault("y:1 2", 4);
        fault("y:123 4", 6);
        fault("y:m=1 2?m", 6);
        for (int sign : new int[] {9, 10, 13, 31, 127, 128, 160, 255}) {
            fault("y:" + (char) sign + "m", 2);
        }
    }

    private static int worth(String law) {
        // 4 PEOPLE, so it is not 0 by itself; it is in the other HOUSE.
        StainStreet x = Check.street("sh1;hm6w5g4p4;h;ft7");
        Check.law(x, law);
        return x.house(0, 6);
    }

    private static void worth(String law, int want) {
        Check.due("WORTH by " + law, worth(law), want);
    }

    private static void withinAMillion() {
        Check.by("Behind each sign numbers are within -1,000,000 .. 1,000,000");
        worth("y:999*1001+0-1000*1000+50", 49);
        worth("y:999*1001+1-1000*1000+50", 50);
        worth("y:999*1001+2-1000*1000+50", 50);
        worth("y:1000*1000+1-1000*1000+50", 50);
        worth("y:1000*1000-1-1000*1000+50", 49);
        worth("y:[0-999*1001]+1000*1000+50", 51);
        worth("y:[0-999*1001]-1+1000*1000+50", 50);
        worth("y:[0-999*1001]-2+1000*1000+50", 50);
        worth("y:[0-1000*1000]+[0-1]+1000*1000+50", 50);
        worth("y:1000*1001-1000*1000+50", 50);
        worth("y:[0-1000]*1001+1000*1000+50", 50);
        worth("y:[0-1000]*[0-1001]-1000*1000+50", 50);
        worth("y:9999*9999=1000*1000?1;y:2", 1);
        worth("y:9999*9999*9999*9999-1000*1000+50", 50);
        // Held behind each sign, not at the end alone.
        worth("y:1000*1000*5/5-9999*20", 20);
        worth("y:1000*1000+9999-9999-990*1000+9", 10);
    }

    private static void cutTowardsNought() {
        Check.by("/ cuts towards 0, by 0 gives 0");
        worth("y:7/2", 3);
        worth("y:1/2", 0);
        worth("y:[0-7]/2+50", 47);
        worth("y:7/[0-2]+50", 47);
        worth("y:[0-7]/[0-2]", 3);
        worth("y:[0-1]/2+50", 50);
        worth("y:5/0+50", 50);
        worth("y:0/0+50", 50);
        worth("y:5/[m-m]+50", 50);
        worth("y:[0-5]/0+50", 50);
        worth("y:1000*1000/0*9+50", 50);
    }

    private static void firstThatHolds() {
        Check.by("WORTH: the SUM of the first CLAUSE whose CONDITION holds (or has none), 0 without");
        worth("y:1;y:2", 1);
        worth("y:m=6?1;y:m=6?2;y:3", 1);
        worth("y:m=5?1;y:m=6?2;y:3", 2);
        worth("y:m=5?1;y:m=7?2;y:3", 3);
        worth("y:m=5?1;y:m=7?2", 0);
        worth("y:m=5?1", 0);
        worth("y:m<6?1;y:m>6?2;y:m=6?3", 3);
        worth("y:m<7?1;y:2", 1);
        worth("y:m>5?1;y:2", 1);
    }

    private static void heldWithinNinetyNine() {
        Check.by("MINDED: WORTH held within 0 .. 99");
        worth("y:98", 98);
        worth("y:99", 99);
        worth("y:100", 99);
        worth("y:1000*1000", 99);
        worth("y:1", 1);
        worth("y:0", 0);
        worth("y:0-1", 0);
        worth("y:0-1000*1000", 0);
    }

    private static StainStreet withLaws(int many) {
        StainStreet x = Check.street("h;h;f");
        for (int i = 0; i < many; i++) {
            Check.feed(x, "y:" + (i + 11));
            x.text(1);
        }
        return x;
    }

    private static void fourAtMost() {
        Check.by("LAWS (4 at most); 5: a LAW: its number. NONE: there are four LAWS");
        for (int many = 0; many < 4; many++) {
            StainStreet x = withLaws(many);
            Check.feed(x, "y:7");
            Check.dueAll("the next of " + many, new int[] {x.text(1), x.count(2), x.count(3)}, many, many + 1, 0);
        }
        Twins.refused("text(1) with four", () -> withFifth("y:7"), x -> x.text(1), -1, -1);
        Check.due("fault(1) with four", withFifth("y:7").fault(1), -1);
        Twins.changesNothing("fault(1) with four", () -> withFifth("y:7"), x -> x.fault(1));
        Check.by("5: NONE: a FAULT");
        for (String text : new String[] {"", "y:", "y:m;", "h;h;f", "y:12345"}) {
            Twins.refused("text(1) of <" + text + ">", () -> withThird(text), x -> x.text(1), -1, -1);
        }
        StainStreet none = new StainStreet();
        Check.feed(none, "y:m");
        Check.due("text(1) without a STREET", none.text(1), 0);
    }

    private static StainStreet withFifth(String text) {
        StainStreet x = withLaws(4);
        x.law(3);
        Check.feed(x, text);
        return x;
    }

    private static StainStreet withThird(String text) {
        StainStreet x = withLaws(2);
        x.law(1);
        Check.feed(x, text);
        return x;
    }

    private static void whichHolds() {
        Check.by("9: The LAW that holds (NONE: none). False: no such one");
        StainStreet none = new StainStreet();
        Check.due("law(0) without LAWS", none.law(0), false);
        Check.due("law(-1) without LAWS", none.law(-1), true);
        for (int many = 0; many <= 4; many++) {
            StainStreet x = withLaws(many);
            Check.due("none holds at first", x.count(4), -1);
            for (int law = 0; law < many; law++) {
                Check.due("law(" + law + ") of " + many, x.law(law), true);
                Check.dueAll("it holds", new int[] {x.count(4), x.house(0, 6)}, law, law + 11);
            }
            Check.due("law(" + many + ") of " + many, x.law(many), false);
            Check.due("the last still holds", x.count(4), many - 1);
            Check.due("law(-1)", x.law(-1), true);
            Check.dueAll("none holds", new int[] {x.count(4), x.house(0, 6)}, -1, 4);
        }
        for (int law : new int[] {-2, 2, 3, 4, Integer.MIN_VALUE, Integer.MAX_VALUE}) {
            Twins.refused("law(" + law + ")", () -> withThird("h;h"), x -> x.law(law) ? 1 : 0, 0, -1);
        }
    }

    public static void main(String[] args) {
        clausesOneAtLeast();
        firstByteThatIsWrong();
        tooEarly();
        digits();
        lettersOfLaws();
        conditionBehindTheColon();
        sixWithinOneAnother();
        blanks();
        withinAMillion();
        cutTowardsNought();
        firstThatHolds();
        heldWithinNinetyNine();
        fourAtMost();
        whichHolds();
        Check.end("LawTextEdgesTest");
    }
}
