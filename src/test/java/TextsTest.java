/** Promises 1 to 5: a new object, the tape, faults and texts. */
public final class TextsTest {
    private static void newObject() {
        StainStreet x = new StainStreet();
        int[] counts = new int[12];
        for (int i = 0; i < 12; i++) {
            counts[i] = x.count(i);
        }
        Check.dueAll("count(0 .. 11) of a new object", counts, 0, 0, 0, 0, -1, 0, 0, 0, 0, 0, 0, 0);
        Check.due("rule(0)", x.rule(0), -1);
        Check.due("form(0, 0)", x.form(0, 0), -1);
        Check.refusesHouse(x, 0, 0);
        Check.due("goesTo()", x.goesTo(), -1000000);
        Check.due("log(0, 0)", x.log(0, 0), -1000000);
        Check.dueAll("status", Check.statuses(x), 0, 0, 0, 0, 0);
    }

    private static void feeding() {
        StainStreet x = new StainStreet();
        Check.due("feed of zeros", x.feed(0, 0, 0, 0, 0), 0);
        Check.due("feed with zeros between", x.feed(0x68000000, 0x3b00, 0x68, 0x3b0000, 0x66), 5);
        Check.due("fault(0) of h;h;f", x.fault(0), -1);
        Check.due("feed of high bytes", x.feed(0xffffffff, 0, 0, 0, 0x80000000), 10);
        Check.due("fault(0) at the first high byte", x.fault(0), 5);
        for (int i = 0; i < 11; i++) {
            Check.due("feed of twenty", x.feed(0x20202020, 0x20202020, 0x20202020, 0x20202020, 0x20202020),
                    30 + 20 * i);
        }
        Check.due("feed beyond 240", x.feed(0x20202020, 0x20202020, 0x20202020, 0, 0), -1);
        Check.due("count(3)", x.count(3), 230);
        Check.due("feed of eleven", x.feed(0x20202020, 0x20202020, 0x20202000, 0, 0), -1);
        Check.due("feed of ten", x.feed(0x20202020, 0x20202020, 0, 0, 0x20200000), 240);
        Check.due("feed of one more", x.feed(0, 0, 0, 0, 1), -1);
        Check.due("feed of none more", x.feed(0, 0, 0, 0, 0), 240);
        for (int word = 0; word < 5; word++) {
            int[] w = new int[5];
            w[word] = 0x7f0000;
            Check.due("feed of one more in word " + word, x.feed(w[0], w[1], w[2], w[3], w[4]), -1);
        }
        Check.due("count(3)", x.count(3), 240);
    }

    private static void ending() {
        StainStreet x = new StainStreet();
        Check.feed(x, "h;h;f;h");
        Check.due("end(8)", x.end(8), false);
        Check.due("end(-1)", x.end(-1), false);
        Check.due("end(min)", x.end(Integer.MIN_VALUE), false);
        Check.due("end(max)", x.end(Integer.MAX_VALUE), false);
        Check.due("count(3)", x.count(3), 7);
        Check.due("end(7)", x.end(7), true);
        Check.due("end(6)", x.end(6), true);
        Check.due("fault(0)", x.fault(0), 6);
        Check.due("end(5)", x.end(5), true);
        Check.due("fault(0)", x.fault(0), -1);
        Check.due("text(0) keeps the first five", x.text(0), 2);
        Check.due("end(0) of an empty tape", x.end(0), true);
        Check.due("end(1) of an empty tape", x.end(1), false);
        Check.feed(x, "h;h      y:12     ");
        x.end(3);
        Check.due("what is behind the end is no more", x.fault(0), 3);
        Check.due("what is behind the end is no more", x.fault(1), 0);
    }

    private static void streetFault(String text, int want) {
        Check.due("fault(0) of <" + text + ">", Check.fault(0, text), want);
    }

    private static void streetFaults() {
        streetFault("", 0);
        streetFault("   ", 3);
        streetFault("h;h;f", -1);
        streetFault("h;f;h;s", -1);
        streetFault(" h ; h ; f ", -1);
        streetFault("h;h;f;", 6);
        streetFault("h;h;f; ", 7);
        streetFault(";h;h;f", 0);
        streetFault("h;;h;f", 2);
        streetFault("h;h", 3);
        streetFault("h;f", 3);
        streetFault("hh;f", 1);
        streetFault("H;h;f", 0);
        streetFault("s;h;h;f;s", 8);
        streetFault("h;h;h;h;h;h;h;h;f", -1);
        streetFault("f;h;h;h;h;h;h;h;h;h", 18);
        streetFault("h;h;f;f;f;f;f;f", -1);
        streetFault("h;h;f;f;f;f;f;f;f", 16);
        streetFault("sd1h8f0c99;hm0w0g0p0;hm9w9g9p9;ft9n0", -1);
        streetFault("sd09h08f00c00;hm09;h;ft01n00", -1);
        streetFault("sm1;h;h;f", 1);
        streetFault("h d1", 2);
        streetFault("h;h;fd1", 5);
        streetFault("hm1m2", 3);
        streetFault("hm1w2g3p4m5", 9);
        streetFault("h m", 3);
        streetFault("hm;h;f", 2);
        streetFault("hm h", 3);
        streetFault("hm-1", 2);
        streetFault("hm1 2;h;f", 4);
        streetFault("sf5;h;h;f;f;f;f;f;fn5", -1);
    }

    private static void streetNumbers() {
        streetFault("sd0;h;h;f", 2);
        streetFault("sd00;h;h;f", 3);
        streetFault("sd10;h;h;f", 3);
        streetFault("sd001;h;h;f", 4);
        streetFault("sd999;h;h;f", 4);
        streetFault("sc100;h;h;f", 4);
        streetFault("sh9;h;h;f", 2);
        streetFault("sh90;h;h;f", 3);
        streetFault("sf6;h;h;f", 2);
        streetFault("hm10;h;f", 3);
        streetFault("hw10;h;f", 3);
        streetFault("hg10;h;f", 3);
        streetFault("hp10;h;f", 3);
        streetFault("hp99999;h;f", 4);
        streetFault("h;h;ft0", 6);
        streetFault("h;h;ft10", 7);
        streetFault("h;h;fn6", 6);
        streetFault("h;h;fn66", 7);
        streetFault("h;h;fn666", 8);
        streetFault("sd 1 h 1 f 0 c 5 ; h ; h ; f t 1 n 0", -1);
    }

    private static void streetNotTold() {
        streetFault("sh2;h;h;f", 9);
        streetFault("sh2;h;h;f;h", -1);
        streetFault("sh7;h;h;h;h;h;h;h;f", 19);
        streetFault("sf1;h;h;f", 9);
        streetFault("sf1;h;h;f;f", -1);
        streetFault("h;h;fn1", 7);
        streetFault("h;h;fn1 ", 8);
        streetFault("h;h;fn1;fn2", 11);
        streetFault("h;h;fn1;fn2;fn0", -1);
        streetFault("sh2;h;h;fn1;x", 12);
    }

    private static void lawFault(String text, int want) {
        Check.due("fault(1) of <" + text + ">", Check.fault(1, text), want);
    }

    private static void lawFaults() {
        lawFault("", 0);
        lawFault("  ", 2);
        lawFault("y:m", -1);
        lawFault(" y : m ", -1);
        lawFault("y", 1);
        lawFault("ym", 1);
        lawFault("y:", 2);
        lawFault("y:;y:m", 2);
        lawFault("y:m;", 4);
        lawFault("y:m;;y:m", 4);
        lawFault("y:m;x", 4);
        lawFault("y:h", 2);
        lawFault("y:s", 2);
        lawFault("y:m w", 4);
        lawFault("y:-1", 2);
        lawFault("y:1-", 4);
        lawFault("y:1--1", 4);
        lawFault("y:1*/1", 4);
        lawFault("y:1234", -1);
        lawFault("y:12345", 6);
        lawFault("y:00000", 6);
        lawFault("y:m+12345", 8);
        lawFault("y:1 2", 4);
        lawFault("y:[m]", -1);
        lawFault("y:[m", 4);
        lawFault("y:[m)", 4);
        lawFault("y:[]", 3);
        lawFault("y:m]", 3);
        lawFault("y:[m=1]", 4);
        lawFault("y:[;y:m", 3);
        lawFault("y:[m;y:m", 4);
        lawFault("y:[m+;y:m", 5);
    }

    private static void lawConditions() {
        lawFault("y:m=1?m", -1);
        lawFault("y : m < 1 & w > 2 | g = 3 ? m", -1);
        lawFault("y:m=1", 5);
        lawFault("y:m=1;y:m", 5);
        lawFault("y:m?m", 3);
        lawFault("y:m=?m", 4);
        lawFault("y:m==1?m", 4);
        lawFault("y:m=1=1?m", 5);
        lawFault("y:m=1?m=2", 7);
        lawFault("y:m=1?m?m", 7);
        lawFault("y:m=1?", 6);
        lawFault("y:m=1?(m)", 6);
        lawFault("y:m&w=1?m", 3);
        lawFault("y:m=1&w?m", 7);
        lawFault("y:m=1&?m", 6);
        lawFault("y:(m)=1?m", 4);
        lawFault("y:(m=1)?m", -1);
        lawFault("y:(m=1)", 7);
        lawFault("y:(m=1)+1?m", 7);
        lawFault("y:(m=1?m", 6);
        lawFault("y:!m", 4);
        lawFault("y:!m=1?m", -1);
        lawFault("y:!(m=1|w=2)&!!g=3?m", -1);
        lawFault("y:m=!1?m", 4);
        lawFault("y:m!=1?m", 3);
        lawFault("y:m=1|(w=2&[g+1]*2>3)?m;y:1", -1);
        lawFault("y:!?m", 3);
        lawFault("y:(?m", 3);
        lawFault("y:!(?m", 4);
        lawFault("y:m=1|?m", 6);
        lawFault("y:m>[?m", 5);
    }

    private static void lawNesting() {
        lawFault("y:[[[[[[m]]]]]]", -1);
        lawFault("y:[[[[[[[m]]]]]]]", 8);
        lawFault("y:!!!!!!m=1?m", -1);
        lawFault("y:!!!!!!!m=1?m", 8);
        lawFault("y:!!!!!![m]=1?m", 8);
        lawFault("y:!!!!!m=[1]?m", -1);
        lawFault("y:!!!!!!m=[1]?m", 10);
        lawFault("y:((((((m=1))))))?m", -1);
        lawFault("y:(((((((m=1)))))))?m", 8);
        lawFault("y:(!(!(![m]=1)))?m", 8);
        lawFault("y:(!(!(!m=1)))&(!(!(!m=2)))?[[[[[[m]]]]]]", -1);
        lawFault("y:(((((([m]=1))))))?m", 8);
        lawFault("y:m=1?[[[[[[m]]]]]]", -1);
        lawFault("y:m=1?[[[[[[[m]]]]]]]", 12);
        lawFault("y:m=1?m;y:[[[[[[[m", 16);
    }

    private static void sorts() {
        StainStreet x = new StainStreet();
        Check.feed(x, "h;h;f");
        for (int sort : new int[] {-1, 2, Integer.MIN_VALUE, Integer.MAX_VALUE}) {
            Check.due("fault(" + sort + ")", x.fault(sort), -2);
            Check.due("text(" + sort + ")", x.text(sort), -1);
        }
        Check.due("text(1) of a street", x.text(1), -1);
        Check.due("count(3) of what was refused", x.count(3), 5);
        Check.due("text(0)", x.text(0), 2);
        Check.due("count(3) of what was taken", x.count(3), 0);
        Check.due("text(0) of an empty tape", x.text(0), -1);
        Check.due("count(0)", x.count(0), 2);
    }

    private static void fourLaws() {
        StainStreet x = new StainStreet();
        for (int i = 0; i < 4; i++) {
            Check.feed(x, "y:" + (i + 1));
            Check.due("text(1)", x.text(1), i);
            Check.due("count(2)", x.count(2), i + 1);
        }
        Check.feed(x, "y:5");
        Check.due("fault(1)", x.fault(1), -1);
        Check.due("text(1) of a fifth", x.text(1), -1);
        Check.due("count(2)", x.count(2), 4);
        Check.due("count(3)", x.count(3), 3);
        Check.due("count(4)", x.count(4), -1);
        x.end(0);
        Check.feed(x, "h;h;f");
        x.text(0);
        for (int i = 0; i < 4; i++) {
            x.law(i);
            Check.due("MINDED by law " + i, x.house(0, 6), i + 1);
        }
        Check.feed(x, "y:77");
        Check.due("fault(1) with four", x.fault(1), -1);
        Check.due("MINDED is as it was", x.house(0, 6), 4);
    }

    private static void lawBehindAFault() {
        StainStreet x = Check.street("h;h;f");
        Check.feed(x, "y:m=9?1;y:5;y:6+7+8+x");
        Check.due("fault(1)", x.fault(1), 20);
        Check.due("text(1)", x.text(1), -1);
        x.end(0);
        Check.law(x, "y:7");
        Check.due("MINDED by the law alone", x.house(0, 6), 7);
        Check.law(x, "y:m=9?1;y:m=3?8");
        Check.due("MINDED by the second", x.house(0, 6), 8);
        x.law(0);
        Check.due("MINDED by the first", x.house(0, 6), 7);
    }

    private static void longLaw() {
        StringBuilder text = new StringBuilder("y:0");
        for (int i = 1; i < 60; i++) {
            text.append(";y:").append(i % 10);
        }
        Check.due("sixty clauses fit", Check.fault(1, text.toString()), -1);
        StringBuilder sum = new StringBuilder("y:m");
        for (int i = 0; i < 115; i++) {
            sum.append("+1");
        }
        StainStreet x = Check.street("hm1;h;f");
        Check.law(x, sum + "-99-9");
        Check.due("MINDED by a long sum", x.house(0, 6), 8);
        Check.law(x, text.toString());
        Check.due("MINDED by the first of sixty", x.house(0, 6), 0);
        StringBuilder late = new StringBuilder();
        for (int i = 0; i < 29; i++) {
            late.append("y:w=9?1;");
        }
        Check.law(x, late + "y:7");
        Check.due("MINDED by the last of thirty", x.house(0, 6), 7);
        StainStreet y = Check.street("hm1;h;f");
        Check.feed(y, "y:m-m+m-m+m-m");
        for (int i = 0; i < 28; i++) {
            Check.feed(y, "+[m+w+g]");
        }
        Check.due("count(3)", y.count(3), 237);
        Check.due("text(1)", y.text(1), 0);
        y.law(0);
        Check.due("MINDED by a long sum", y.house(0, 6), 28);
        StainStreet z = Check.street("hm1;h;f");
        Check.law(z, "y:1=1&(1=1&(1=1&(1=1&(1=1&(1+1*[1+1*2]=3+1*0&1=1)))))&1=1?3;y:4");
        Check.due("MINDED by a deep condition", z.house(0, 6), 4);
        Check.law(z, "y:1=2|1=1&(1=2|1=1&(1=2|1=1&(1=2|1=1&(1=2|1=1&(1=2|1=1&1+2*3=7)))))?3;y:4");
        Check.due("MINDED by a deep condition", z.house(0, 6), 3);
    }

    private static void everySlot() {
        StainStreet x = Check.street("ft9n5;ft8n4;hm1w2g3p4;hm5w6g7p8;hm9w8g7p6;ft7n3;hm5w4g3p2;hm1w1g1p1;"
                + "hm2w2g2p2;hm3w3g3p3;ft6n2;ft5n1;hm4w4g4p5;ft4n0;sd9h7f5c98");
        Check.dueAll("MIND", Check.ofHouses(x, 0), 1, 5, 9, 5, 1, 2, 3, 4);
        Check.dueAll("WHITE", Check.ofHouses(x, 1), 2, 6, 8, 4, 1, 2, 3, 4);
        Check.dueAll("HANGINGS", Check.ofHouses(x, 2), 3, 7, 7, 3, 1, 2, 3, 4);
        Check.dueAll("PEOPLE", Check.ofHouses(x, 3), 4, 8, 6, 2, 1, 2, 3, 5);
        for (int f = 0; f < 6; f++) {
            Check.due("SIZE of " + f, x.form(f, 0), 9 - f);
            Check.due("behind " + f, x.form(f, 1), 5 - f);
        }
        Check.dueAll("rules", new int[] {x.rule(0), x.rule(1), x.rule(2), x.rule(3)}, 9, 7, 5, 98);
        Check.dueAll("all but the first and the last", new int[] {x.count(0), x.count(1)}, 8, 6);
        StainStreet y = Check.street("hm5;ft9n1;h;f;s");
        Check.dueAll("the usual ones change no other", new int[] {y.house(0, 0), y.house(1, 0), y.form(0, 0),
            y.form(1, 0)}, 5, 3, 9, 3);
    }

    private static void streetAnew() {
        StainStreet x = Check.street("sd1h0;hm5;hm4;f");
        Check.law(x, "y:m");
        x.moods(3);
        x.days(4);
        x.sham(7, 1);
        x.seen(1, 0, true);
        x.was(0, 0, true);
        x.piano(1);
        x.sham(1, 2);
        x.image();
        Check.feed(x, "sh9");
        Check.due("text(0) with a fault", x.text(0), -1);
        Check.due("the day is as it was", x.count(5), 4);
        Check.due("acts", x.count(11), 6);
        x.end(0);
        Check.feed(x, "hm1p3;h;h;ft5n1;f");
        Check.due("text(0)", x.text(0), 3);
        int[] counts = new int[12];
        for (int i = 0; i < 12; i++) {
            counts[i] = x.count(i);
        }
        Check.dueAll("count(0 .. 11) of another street", counts, 3, 2, 1, 0, 0, 0, 3, 0, 0, 0, 0, 0);
        Check.dueAll("status stays", Check.statuses(x), 1, 0, 0, 0, 0);
        Check.due("back()", x.back(), -1);
        Check.due("undo()", x.undo(), -1);
        Check.due("log(0, 0)", x.log(0, 0), -1000000);
        int[] rules = {x.rule(0), x.rule(1), x.rule(2), x.rule(3)};
        Check.dueAll("the usual rules", rules, 3, 8, 0, 20);
        Check.dueAll("MIND", Check.ofHouses(x, 0), 1, 3, 3);
        Check.dueAll("WHITE", Check.ofHouses(x, 1), 0, 0, 0);
        Check.dueAll("HANGINGS", Check.ofHouses(x, 2), 0, 0, 0);
        Check.dueAll("PEOPLE", Check.ofHouses(x, 3), 3, 2, 2);
        Check.dueAll("SHAM", Check.ofHouses(x, 4), 0, 0, 0);
        Check.due("the usual size", x.form(1, 0), 3);
        Check.due("what usually follows", x.form(1, 1), 0);
    }

    public static void main(String[] args) {
        newObject();
        feeding();
        ending();
        streetFaults();
        streetNumbers();
        streetNotTold();
        lawFaults();
        lawConditions();
        lawNesting();
        sorts();
        fourLaws();
        lawBehindAFault();
        longLaw();
        everySlot();
        streetAnew();
        Check.end("TextsTest");
    }
}
