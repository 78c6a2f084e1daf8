/** Promises 6 to 9, 19, 21, 42 to 44 and 47: what is there, by the law that holds. */
public final class LooksTest {
    private static final int HIDDEN = -1000000;

    private static void rules() {
        StainStreet x = Check.street("sd4h1f1c7;hm1;hm9p0;ft9n1;ft8n0");
        int[] rules = {x.rule(0), x.rule(1), x.rule(2), x.rule(3)};
        Check.dueAll("rule(0 .. 3)", rules, 4, 1, 1, 7);
        Check.due("rule(-1)", x.rule(-1), -1);
        Check.due("rule(4)", x.rule(4), -1);
        Check.due("rule(max)", x.rule(Integer.MAX_VALUE), -1);
        x.give(5);
        x.days(4);
        Check.dueAll("rule(0 .. 3) behind four days",
                new int[] {x.rule(0), x.rule(1), x.rule(2), x.rule(3)}, 4, 0, 0, 12);
        StainStreet none = Check.street("hp0;hp0;f");
        Check.due("rule(1) of none", none.rule(1), 8);
    }

    private static void houses() {
        StainStreet x = Check.street("h m7 w2 g4 p5;h;f");
        int[] all = new int[7];
        for (int what = 0; what < 7; what++) {
            all[what] = x.house(0, what);
        }
        Check.dueAll("house(0, 0 .. 6)", all, 7, 2, 4, 5, 0, 0, 7);
        x.sham(0, -3);
        x.piano(0);
        x.piano(1);
        Check.due("SHAM", x.house(0, 4), -3);
        Check.due("a piano", x.house(0, 5), 1);
        Check.due("MINDED with a piano", x.house(0, 6), 0);
        Check.due("MIND is none of SHAM", x.house(0, 0), 7);
        for (int[] bad : new int[][] {{-1, 0}, {2, 0}, {8, 0}, {0, -1}, {0, 7}, {Integer.MAX_VALUE, 0},
            {Integer.MIN_VALUE, 0}, {0, Integer.MAX_VALUE}, {0, Integer.MIN_VALUE}}) {
            Check.refusesHouse(x, bad[0], bad[1]);
        }
    }

    private static void mindedByNone() {
        StainStreet x = Check.street("hm9w9p9;hm2g9;hm9p0;hm0p3;f");
        Check.dueAll("MINDED", Check.ofHouses(x, 6), 22, 0, 0, 1);
        x.sham(0, 9);
        x.sham(3, -1);
        Check.dueAll("MINDED with SHAMS", Check.ofHouses(x, 6), 31, 0, 0, 0);
    }

    private static void forms() {
        StainStreet x = Check.street("h;h;ft9n2;f;ft1n1");
        Check.dueAll("sizes", new int[] {x.form(0, 0), x.form(1, 0), x.form(2, 0)}, 9, 3, 1);
        Check.dueAll("follows", new int[] {x.form(0, 1), x.form(1, 1), x.form(2, 1)}, 2, 0, 1);
        Check.dueAll("no such ones", new int[] {x.form(-1, 0), x.form(3, 0), x.form(0, -1), x.form(0, 2)},
                -1, -1, -1, -1);
    }

    private static int worth(String law, String house) {
        StainStreet x = Check.street("sh1f1;h" + house + ";hm3;f;ft7");
        Check.law(x, law);
        return x.house(0, 6);
    }

    private static void worths() {
        String[][] laws = {
            {"y:m", "6"}, {"y:w", "5"}, {"y:g", "4"}, {"y:p", "9"}, {"y:t", "7"}, {"y:d", "1"},
            {"y:12", "12"}, {"y:0012", "12"}, {"y:99", "99"}, {"y:100", "99"}, {"y:0-1", "0"},
            {"y:2+3*4", "14"}, {"y:[2+3]*4", "20"}, {"y:20-5-3", "12"}, {"y:20-[5-3]", "18"},
            {"y:7/2", "3"}, {"y:7/2*2", "6"}, {"y:2*7/2", "7"}, {"y:64/8/4", "2"}, {"y:64/[8/4]", "32"},
            {"y:[0-7]/2+10", "7"}, {"y:7/[0-2]+10", "7"}, {"y:5/0+1", "1"}, {"y:5/[m-6]+1", "1"},
            {"y:m*w-g/2+p", "37"}, {"y:1;y:2", "1"}, {"y:m=5?1;y:2", "2"}, {"y:m=6?1;y:2", "1"},
            {"y:m<6?1;y:m>6?2;y:m=6?3;y:4", "3"}, {"y:m=1?1;y:m=2?2", "0"},
            {"y:1=1|1=2&1=2?1;y:2", "1"}, {"y:(1=1|1=2)&1=2?1;y:2", "2"},
            {"y:1=2&1=2|1=1?1;y:2", "1"}, {"y:1=2|1=2|1=1?1;y:2", "1"}, {"y:1=1&1=1&1=2?1;y:2", "2"},
            {"y:1=1|1=1?1;y:2", "1"}, {"y:1=2|1=2?1;y:2", "2"},
            {"y:!1=2?1;y:2", "1"}, {"y:!!1=2?1;y:2", "2"}, {"y:!1=2&1=2?1;y:2", "2"},
            {"y:!(1=2&1=2)?1;y:2", "1"}, {"y:!(1=1)|2>1?1;y:2", "1"}, {"y:!1=1?1;y:2", "2"},
            {"y:1=1&1<2&2>1?1;y:2", "1"}, {"y:1<2&1=1?1;y:2", "1"}, {"y:2>1&1<2?1;y:2", "1"},
            {"y:1=2&(1=1)?1;y:2", "2"}, {"y:1=1|1=2|1=2?1;y:2", "1"}, {"y:1=2|1=1|1=2?1;y:2", "1"},
            {"y:(1=2)|(1=2)&(1=1)?1;y:2", "2"}, {"y:!(!(1=1&1=1)|1=2)?1;y:2", "1"},
            {"y:1-2-3+10", "6"}, {"y:1+2*3-4/2+1", "6"}, {"y:2*3+4*5", "26"}, {"y:2*[1+[2-[3-4]]]", "8"},
            {"y:0-1<0?1;y:2", "1"}, {"y:m+1=w+2?1;y:2", "1"}, {"y:[m]>[w]?1;y:2", "1"},
        };
        for (String[] law : laws) {
            Check.due("MINDED by " + law[0], worth(law[0], "m6w5g4p9"), Integer.parseInt(law[1]));
        }
        Check.due("MINDED of no people by a law", worth("y:9", "p0"), 0);
    }

    private static void heldWithin() {
        // 9999 * 9999 would be 99980001: held at a million behind the sign.
        Check.due("* is held above", worth("y:9999*9999/9999", ""), 99);
        Check.due("* is held at a million", worth("y:9999*9999/9999-99", ""), 1);
        Check.due("+ is held", worth("y:1000*1000+5-1000*1000+3", ""), 3);
        Check.due("- is held", worth("y:0-1000*1000-5+1000*1000+3", ""), 3);
        Check.due("* is held below", worth("y:[0-9999]*9999+1000*1000+3", ""), 3);
        Check.due("+ is held below", worth("y:[0-1000*1000]+[0-5]+1000*1000+3", ""), 3);
        Check.due("a million is within", worth("y:1000*1000/1000-990", ""), 10);
    }

    private static void letters() {
        StainStreet x = Check.street("sd1h1c50;hm2;hm9;hm2;hm2;ft3n1;ft8n0");
        Check.law(x, "y:d*10+t");
        Check.dueAll("d and t", Check.ofHouses(x, 6), 13, 3, 13, 23);
        x.days(1);
        Check.due("it went to", x.rule(1), 3);
        Check.dueAll("d and t then", Check.ofHouses(x, 6), 38, 28, 18, 8);
        Check.law(x, "y:m+20");
        x.sham(0, -9);
        Check.due("m below 0", x.house(0, 6), 13);
        StainStreet none = Check.street("h;h;f");
        Check.law(none, "y:d");
        Check.dueAll("d with none", Check.ofHouses(none, 6), 9, 9);
    }

    private static void laws() {
        StainStreet x = Check.street("h;h;f");
        Check.due("law(0) without laws", x.law(0), false);
        Check.due("law(-1)", x.law(-1), true);
        Check.due("law(-2)", x.law(-2), false);
        Check.feed(x, "y:7");
        x.text(1);
        Check.due("none holds at first", x.count(4), -1);
        Check.due("MINDED by none", x.house(0, 6), 4);
        Check.due("law(1)", x.law(1), false);
        Check.due("law(0)", x.law(0), true);
        Check.due("law(0) again", x.law(0), true);
        Check.due("count(4)", x.count(4), 0);
        Check.due("MINDED by it", x.house(0, 6), 7);
        Check.due("law(min)", x.law(Integer.MIN_VALUE), false);
        Check.due("law(max)", x.law(Integer.MAX_VALUE), false);
        Check.due("law(-1)", x.law(-1), true);
        Check.due("MINDED by none again", x.house(0, 6), 4);
    }

    private static void statuses() {
        StainStreet x = Check.street("h;h;f");
        Check.due("status(-1)", x.status(-1), -1);
        Check.due("status(5)", x.status(5), -1);
        Check.due("status(max)", x.status(Integer.MAX_VALUE), -1);
        x.sham(2, 99);
        x.sham(0, 99);
        x.sham(0, 99);
        x.sham(0, 0);
        Check.dueAll("status", Check.statuses(x), 1, 2, 1, 0, 0);
    }

    private static void log() {
        StainStreet x = Check.street("sd2h0;hm3;hm3;fn1;fn2;fn0");
        Check.due("log(0, 0) of no moving day", x.log(0, 0), HIDDEN);
        x.days(7);
        // Behind 2: MIND 1 and 3, it goes to 1; behind 4: 3 and 1, to 0; behind 6: 1 and 3, to 1.
        Check.dueAll("days", new int[] {x.log(0, 0), x.log(1, 0), x.log(2, 0)}, 6, 4, 2);
        Check.dueAll("houses", new int[] {x.log(0, 1), x.log(1, 1), x.log(2, 1)}, 1, 0, 1);
        Check.dueAll("forms", new int[] {x.log(0, 2), x.log(1, 2), x.log(2, 2)}, 0, 2, 1);
        Check.dueAll("no such ones",
                new int[] {x.log(3, 0), x.log(-1, 0), x.log(0, -1), x.log(0, 3), x.log(Integer.MAX_VALUE, 0)},
                HIDDEN, HIDDEN, HIDDEN, HIDDEN, HIDDEN);
        Check.due("count(10)", x.count(10), 3);
        StainStreet none = Check.street("sd1h0;hp0;hp0;f");
        none.days(1);
        Check.due("log of none", none.log(0, 1), -1);
        StainStreet full = Check.street("sd1;h;h;f");
        full.days(60);
        Check.due("count(10) of 60", full.count(10), 60);
        full.days(3);
        Check.due("count(10) is 60 at most", full.count(10), 60);
        Check.due("the latest", full.log(0, 0), 63);
        Check.due("the oldest", full.log(59, 0), 4);
        Check.due("none older", full.log(60, 0), HIDDEN);
    }

    private static void most() {
        StainStreet x = Check.street("sd1h0c50;hm3w1p2;hm2w5p0;hm2w5p9;hm8w0p1;f");
        int[] all = new int[6];
        for (int what = 0; what < 6; what++) {
            all[what] = x.most(what);
        }
        // MINDED: 3 + 1 + 1, no people, 2 + 5 + 4, 8 + 0 + 0.
        Check.dueAll("most(0 .. 5)", all, 1, 2, 1, 0, 12, 2);
        Check.due("most(-1)", x.most(-1), -1);
        Check.due("most(6)", x.most(6), -1);
        x.sham(3, -7);
        Check.due("CALMEST with SHAMS", x.most(0), 3);
        x.sham(1, -1);
        Check.due("CALMEST of several", x.most(0), 1);
        x.sham(0, 6);
        Check.due("LOUDEST of several", x.most(1), 0);
        Check.dueAll("the first of all", new int[] {Check.street("h;h;f").most(0), Check.street("h;h;f").most(1),
            Check.street("h;h;f").most(2), Check.street("hm1w1;h;f").most(0), Check.street("hw1;h;f").most(2)},
                0, 0, 0, 0, 0);
        StainStreet eight = Check.street("h;h;h;h;h;h;h;hm1w9p0;f");
        Check.dueAll("eight", new int[] {eight.most(0), eight.most(1), eight.most(2), eight.most(4), eight.most(5)},
                7, 0, 7, 14, 128);
        StainStreet quiet = Check.street("hm0p0;hm0p0;f");
        Check.due("LOUDEST where all is 0", quiet.most(1), 0);
        Check.due("LONELY", quiet.most(5), 3);
        Check.due("CROWD", quiet.most(4), 0);
    }

    private static void backs() {
        StainStreet x = Check.street("sd1h0c99;hm9;hm1;f");
        Check.due("BACKS of no moving day", x.most(3), 0);
        x.days(1);
        Check.due("BACKS of one", x.most(3), 0);
        x.days(2);
        Check.dueAll("houses", new int[] {x.log(0, 1), x.log(1, 1), x.log(2, 1)}, 0, 0, 0);
        Check.due("BACKS of three alike", x.most(3), 2);
        x.piano(0);
        x.days(1);
        Check.due("it went away", x.log(0, 1), 1);
        Check.due("BACKS then", x.most(3), 0);
        StainStreet none = Check.street("sd1h0;hp0;hp0;f");
        none.days(60);
        Check.due("BACKS of sixty in none", none.most(3), 59);
        none.days(60);
        Check.due("BACKS within the log", none.most(3), 59);
    }

    private static void usedAndNear() {
        StainStreet x = Check.street("hm0;hm9;hm4;f");
        Check.dueAll("USED", new int[] {x.used(0), x.used(1), x.used(2)}, 0, 9, 4);
        x.sham(2, 5);
        Check.due("USED is none of SHAM", x.used(2), 4);
        Check.dueAll("NEAR", new int[] {x.near(0), x.near(1), x.near(2)}, 2, 5, 2);
        Check.dueAll("no such houses", new int[] {x.used(-1), x.used(3), x.near(-1), x.near(3),
            x.near(Integer.MAX_VALUE), x.near(Integer.MIN_VALUE), x.used(Integer.MIN_VALUE)},
                -1, -1, -1, -1, -1, -1, -1);
        StainStreet eight = Check.street("h;h;h;h;h;h;h;h;f");
        Check.dueAll("NEAR of eight", new int[] {eight.near(0), eight.near(6), eight.near(7)}, 2, 160, 64);
    }

    private static void counts() {
        StainStreet x = Check.street("sd2h0;h;h;h;f;f");
        Check.law(x, "y:5");
        Check.feed(x, "abc");
        x.moods(4);
        x.days(2);
        x.piano(0);
        x.piano(2);
        x.seen(1, 1, true);
        x.was(1, 1, true);
        x.was(1, 1, true);
        int[] all = new int[12];
        for (int i = 0; i < 12; i++) {
            all[i] = x.count(i);
        }
        Check.dueAll("count(0 .. 11)", all, 3, 2, 1, 3, 0, 2, 4, 1, 2, 5, 1, 4);
        Check.due("count(-1)", x.count(-1), HIDDEN);
        Check.due("count(12)", x.count(12), HIDDEN);
        Check.due("count(max)", x.count(Integer.MAX_VALUE), HIDDEN);
    }

    public static void main(String[] args) {
        rules();
        houses();
        mindedByNone();
        forms();
        worths();
        heldWithin();
        letters();
        laws();
        statuses();
        log();
        most();
        backs();
        usedAndNear();
        counts();
        Check.end("LooksTest");
    }
}
