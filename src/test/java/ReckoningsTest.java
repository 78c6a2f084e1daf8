/** Promises 22 to 32, 40 and 41: what is reckoned apart, from as it is now. */
public final class ReckoningsTest {
    private static final int HIDDEN = -1000000;
    private static final int MAX = Integer.MAX_VALUE;
    private static final int MIN = Integer.MIN_VALUE;
    // It is in 0 behind two days, in 1 behind the next two, and so on.
    private static final String TO_AND_FRO = "sd2h0;hm4;hm3;hm0p0;fn1;fn2;fn0";
    // It is in none behind three days, in 0 behind the next three, and so on.
    private static final String NOW_AND_THEN = "sd3h0;hm1p1;hm0p1;fn1;f";

    private static void ahead() {
        StainStreet x = Check.street(TO_AND_FRO);
        int[] houses = new int[8];
        int[] forms = new int[8];
        for (int n = 0; n < 8; n++) {
            houses[n] = x.ahead(n, 0);
            forms[n] = x.ahead(n, 1);
        }
        Check.dueAll("ahead(n, 0)", houses, 0, 0, 1, 1, 0, 0, 1, 1);
        Check.dueAll("ahead(n, 1)", forms, 0, 0, 1, 1, 2, 2, 0, 0);
        Check.dueAll("ahead of 59, 60", new int[] {x.ahead(59, 0), x.ahead(59, 1), x.ahead(60, 0), x.ahead(60, 1)},
                1, 2, 0, 0);
        Check.dueAll("refused", new int[] {x.ahead(-1, 0), x.ahead(61, 0), x.ahead(1, -1), x.ahead(1, 2),
            x.ahead(MAX, 0), x.ahead(MIN, 1)}, HIDDEN, HIDDEN, HIDDEN, HIDDEN, HIDDEN, HIDDEN);
        Check.dueAll("nothing is changed", new int[] {x.count(5), x.count(10), x.count(11), x.house(0, 0)},
                0, 0, 0, 4);
        x.days(3);
        Check.dueAll("from as it is now", new int[] {x.ahead(0, 0), x.ahead(1, 0), x.ahead(3, 0)}, 1, 0, 1);
        Check.due("none", Check.street(NOW_AND_THEN).ahead(3, 0), -1);
    }

    private static void aheadWithPianos() {
        StainStreet x = Check.street("sd1h0;hm9;hm1;f");
        x.piano(0);
        Check.dueAll("ahead", new int[] {x.ahead(1, 0), x.ahead(2, 0)}, 1, 0);
        Check.due("the piano is there still", x.count(9), 1);
        x.sham(1, 9);
        x.piano(1);
        // No one minds with a piano; then 9 + 1 against 1 + 9 + 1; then 9 + 1 against 0 + 9 + 1.
        Check.dueAll("ahead", new int[] {x.ahead(1, 0), x.ahead(2, 0), x.ahead(3, 0)}, -1, 1, 0);
    }

    private static void soonest() {
        StainStreet x = Check.street(TO_AND_FRO);
        Check.dueAll("soonest", new int[] {x.soonest(0), x.soonest(1), x.soonest(2), x.soonest(3), x.soonest(-1),
            x.soonest(MAX), x.soonest(MIN)}, 0, 2, -1, -1, -1, -1, -1);
        x.days(2);
        Check.dueAll("soonest then", new int[] {x.soonest(0), x.soonest(1)}, 2, 0);
        StainStreet y = Check.street("sd9;h;h;f");
        Check.dueAll("soonest from none", new int[] {y.soonest(0), y.soonest(1)}, 9, 18);
        StainStreet z = Check.street("sd9;hm9;hm1;f");
        z.days(3);
        Check.due("soonest from now", z.soonest(0), 6);
        // To 0, then to and fro with 1; behind six changes it is the first form again and goes to 2: day 63.
        StainStreet late = Check.street("sd9;hw0;hw1;hw2;ft9n1;fn2;fn3;fn4;fn5;fn0");
        Check.law(late, "y:d=9?1;y:t=9?w;y:w<2?d;y:0");
        late.days(2);
        Check.due("soonest, 61", late.soonest(2), -1);
        late.days(1);
        Check.due("soonest, 60", late.soonest(2), 60);
    }

    private static void visits() {
        StainStreet x = Check.street(TO_AND_FRO);
        Check.dueAll("visits", new int[] {x.visits(1), x.visits(2), x.visits(60), x.visits(0), x.visits(61),
            x.visits(-1), x.visits(MAX)}, 1, 3, 3, -1, -1, -1, -1);
        x.days(1);
        Check.due("where it is now is none of these", x.visits(1), 2);
        StainStreet y = Check.street(NOW_AND_THEN);
        y.days(3);
        Check.dueAll("visits from none", new int[] {y.visits(2), y.visits(3)}, 0, 1);
    }

    private static void empty() {
        StainStreet x = Check.street(NOW_AND_THEN);
        Check.dueAll("empty", new int[] {x.empty(1), x.empty(2), x.empty(3), x.empty(5), x.empty(6), x.empty(8),
            x.empty(9), x.empty(60)}, 0, 0, 1, 3, 3, 3, 4, 30);
        Check.dueAll("refused", new int[] {x.empty(0), x.empty(61), x.empty(-1), x.empty(MIN)}, -1, -1, -1, -1);
        Check.due("empty of an empty street", Check.street("hp0;hp0;f").empty(60), 60);
    }

    private static void goesTo() {
        StainStreet x = Check.street("sd9h0;hm3;hm3;hm2;f");
        Check.due("of several the lowest", x.goesTo(), 0);
        x.sham(2, 2);
        Check.due("where it is most minded", x.goesTo(), 2);
        x.piano(2);
        x.hang(0, 1);
        Check.due("not to a piano", x.goesTo(), 1);
        Check.due("all is as it was", x.rule(1), 0);
        Check.due("to none", Check.street("hp0;hm0p1;f").goesTo(), -1);
    }

    private static void least(StainStreet x, int house, int shamming, int sham) {
        Check.dueAll("least(" + house + ")", new int[] {x.least(house, 0), x.least(house, 1)}, shamming, sham);
    }

    private static void least() {
        StainStreet x = Check.street("hm3;hm3;hp0;f");
        least(x, 0, 0, 0);
        least(x, 1, 1, 0);
        least(x, 2, HIDDEN, HIDDEN);
        Check.dueAll("refused", new int[] {x.least(3, 0), x.least(-1, 0), x.least(0, 2), x.least(0, -1),
            x.least(MAX, 1)}, HIDDEN, HIDDEN, HIDDEN, HIDDEN, HIDDEN);
        x.sham(0, 9);
        least(x, 1, 10, 0);
        x.sham(1, -2);
        least(x, 1, 12, -2);
        Check.due("nothing is changed", x.house(1, 4), -2);
        x.piano(1);
        least(x, 1, HIDDEN, HIDDEN);
        least(Check.street("hm0p1;hm0p1;f"), 0, 1, 1);
        least(Check.street("hm0p1;hm0p1;f"), 1, 1, 1);
        // 21 - 9 is below 4 + 9, 22 - 9 is not.
        least(Check.street("hm9w8p9;hm3;f"), 1, 18, 9);
        least(Check.street("hm9w9p9;hm3;f"), 1, HIDDEN, HIDDEN);
    }

    private static void leastByLaws() {
        StainStreet x = Check.street("hm3;hm3;f");
        Check.law(x, "y:p");
        least(x, 1, HIDDEN, HIDDEN);
        Check.law(x, "y:9-m");
        least(x, 1, 1, -1);
        Check.law(x, "y:m=0|m=7?5;y:1");
        least(x, 0, 0, 0);
        least(x, 1, 3, -3);
        StainStreet y = Check.street("hm3;hm3;hm3;hm3;f");
        least(y, 3, 1, 1);
        // 45 and 27: nine more and nine less are not enough.
        StainStreet z = Check.street("hm3w9;hm3;hm0p0;f");
        Check.law(z, "y:30-m+w*2");
        least(z, 1, HIDDEN, HIDDEN);
        Check.law(z, "y:31-m+w*2-w/9");
        least(z, 1, 18, -9);
        StainStreet eight = Check.street("hm3;hm3;hm3;hm3;hm3;hm3;hm3;hm2;f");
        least(eight, 7, 2, 2);
    }

    private static void rid() {
        Check.due("rid", Check.street("sh0;hm3;hm3;f").rid(), 1);
        Check.due("rid, it would go away", Check.street("sh1;hm3;hm3;f").rid(), 0);
        Check.due("rid by none", Check.street("sh0;hm9w9p9;hp0;f").rid(), -1);
        Check.due("rid to none", Check.street("sh0;hm3;hp0;f").rid(), 4);
        Check.due("rid in none", Check.street("hm3;hp0;f").rid(), -1);
        StainStreet x = Check.street("sh0;hm3;hm3;f");
        x.sham(0, 4);
        Check.due("rid from a SHAM", x.rid(), 5);
        Check.law(x, "y:9-m");
        Check.due("rid by a law", x.rid(), 0);
        x.sham(0, -4);
        Check.due("rid by more", x.rid(), 5);
        Check.due("nothing is changed", x.house(0, 4), -4);
        StainStreet y = Check.street("sh0;hm3;hp0;f");
        Check.law(y, "y:m<12?9");
        Check.due("rid by nine more", y.rid(), 9);
        Check.law(y, "y:m>0-6?9");
        Check.due("rid by nine less", y.rid(), 9);
    }

    private static void white() {
        StainStreet x = Check.street("hm3w9;hm3;hp0;f");
        Check.dueAll("white", new int[] {x.white(0), x.white(1), x.white(2), x.white(3), x.white(-1), x.white(MAX)},
                0, -1, -1, -1, -1, -1);
        StainStreet y = Check.street("hm3;hm3;hm3;f");
        Check.dueAll("white of several", new int[] {y.white(0), y.white(1), y.white(2)}, 0, 1, 1);
        Check.due("white of nine", Check.street("hm9p5;hm3p1;f").white(1), 9);
        StainStreet z = Check.street("hm0p1w0;hm9p0;f");
        Check.due("white of 0", z.white(0), 1);
        Check.law(y, "y:w=4?9;y:w=9?9;y:1");
        Check.due("white by a law", y.white(2), 4);
        Check.due("nothing is changed", y.house(2, 1), 0);
    }

    private static void treaties() {
        StainStreet x = Check.street("hm9w9p9;h;h;f");
        Check.dueAll("of one", new int[] {x.treaties(1, -1), x.treaties(1, 0), x.treaties(1, 1), x.treaties(1, 2)},
                2, 2, 4, -1);
        Check.dueAll("of two", new int[] {x.treaties(2, -1), x.treaties(2, 0), x.treaties(2, 1)}, 1, 6, -1);
        Check.dueAll("of three", new int[] {x.treaties(3, -1), x.treaties(3, 0)}, 0, -1);
        Check.dueAll("refused", new int[] {x.treaties(0, -1), x.treaties(4, -1), x.treaties(1, -2),
            x.treaties(MIN, 0), x.treaties(1, MAX), x.treaties(1, MIN)}, -1, -1, -1, -1, -1, -1);
        StainStreet loud = Check.street("hm9w9p9;hm9w9p9;h;f");
        Check.dueAll("of loud ones", new int[] {loud.treaties(1, -1), loud.treaties(2, -1), loud.treaties(2, 0),
            loud.treaties(2, 1), loud.treaties(3, -1)}, 3, 2, 5, 6, 0);
        StainStreet two = Check.street("h;h;f");
        Check.dueAll("three of two houses", new int[] {two.treaties(3, -1), two.treaties(2, 0)}, 0, 3);
        StainStreet eight = Check.street("h;h;h;h;h;h;h;h;f");
        Check.dueAll("of eight", new int[] {eight.treaties(1, -1), eight.treaties(2, -1), eight.treaties(3, -1),
            eight.treaties(3, 0), eight.treaties(3, 1), eight.treaties(3, 55)}, 8, 28, 56, 7, 11, 224);
    }

    private static void games() {
        StainStreet x = Check.street("hm3;hm3;f");
        Check.dueAll("game", new int[] {x.game(0, 1, 3, 3, 0), x.game(0, 1, 3, 3, 1), x.game(0, 1, 0, 6, 0),
            x.game(0, 1, 0, 6, 1), x.game(0, 1, 6, 5, 0), x.game(0, 1, 6, 5, 1)}, -9, 0, -3, -12, -12, -2);
        Check.dueAll("the other way round", new int[] {x.game(1, 0, 3, 3, 0), x.game(1, 0, 3, 3, 1)}, 0, -9);
        Check.dueAll("game from 0 on", new int[] {x.game(0, 1, 0, 0, 0), x.game(0, 1, 0, 0, 1),
            x.game(0, 1, 6, 6, 0), x.game(0, 1, 6, 6, 1)}, -12, -3, -12, -3);
        x.sham(0, 9);
        Check.due("their SHAMS now are left out", x.game(0, 1, 3, 4, 1), -10);
        Check.due("nothing is changed", x.house(0, 4), 9);
        Check.dueAll("refused", new int[] {x.game(2, 1, 3, 3, 0), x.game(0, 2, 3, 3, 0), x.game(1, 1, 3, 3, 0),
            x.game(0, 1, -1, 3, 0), x.game(0, 1, 7, 3, 0), x.game(0, 1, 3, -1, 0), x.game(0, 1, 3, 7, 0),
            x.game(0, 1, 3, 3, 2), x.game(0, 1, 3, 3, -1), x.game(MAX, MIN, MAX, MIN, MAX)},
                HIDDEN, HIDDEN, HIDDEN, HIDDEN, HIDDEN, HIDDEN, HIDDEN, HIDDEN, HIDDEN, HIDDEN);
        StainStreet y = Check.street("hm3;hm3;hm3;f");
        y.sham(2, 3);
        Check.dueAll("others as now", new int[] {y.game(0, 1, 5, 5, 0), y.game(0, 1, 6, 5, 0), y.game(0, 2, 3, 3, 0)},
                -2, -12, -9);
    }

    private static void rests() {
        StainStreet x = Check.street("hm3;hm3;f");
        Check.dueAll("each would go elsewhere", new int[] {x.rests(0, 1, -1), x.rests(0, 1, 0)}, 0, -1);
        Check.dueAll("a louder third", new int[] {Check.street("hm3;hm3;hm9p9;f").rests(0, 1, -1),
            Check.street("hm3;hm3;hm9p9;f").rests(0, 1, 0)}, 1, 33);
        Check.dueAll("a third alike", new int[] {Check.street("hm3;hm3;hm3;f").rests(0, 1, -1),
            Check.street("hm3;hm3;hm3;f").rests(1, 0, 0)}, 1, 22);
        StainStreet y = Check.street("hm5;hm3;hm3;f");
        Check.law(y, "y:m=3?9;y:1");
        Check.dueAll("four rests", new int[] {y.rests(1, 2, -1), y.rests(1, 2, 0), y.rests(1, 2, 1), y.rests(1, 2, 2),
            y.rests(1, 2, 3), y.rests(1, 2, 4)}, 4, 22, 24, 42, 44, -1);
        StainStreet z = Check.street("hw5;hm3;hm3;f");
        Check.law(z, "y:w=5?5;y:m<1?1;y:9");
        Check.dueAll("a rest at the low end", new int[] {z.rests(1, 2, -1), z.rests(1, 2, 0)}, 1, 0);
        Check.law(z, "y:w=5?5;y:m>5?1;y:9");
        Check.dueAll("a rest at the high end", new int[] {z.rests(1, 2, -1), z.rests(1, 2, 0)}, 1, 66);
        Check.dueAll("refused", new int[] {y.rests(1, 1, -1), y.rests(3, 1, -1), y.rests(1, -1, -1),
            y.rests(1, 2, -2), y.rests(1, 2, MAX), y.rests(MIN, MAX, 0)}, -1, -1, -1, -1, -1, -1);
    }

    private static void odds() {
        StainStreet x = Check.street("hm3;hm3;f");
        Check.dueAll("odds", new int[] {x.odds(0, 30), x.odds(1, 30), x.odds(-1, 30), x.odds(1, 0), x.odds(1, 100),
            x.odds(0, 100)}, 790000000, 210000000, 0, 0, 0, 1000000000);
        StainStreet y = Check.street("hm0p1;hm0p1;f");
        Check.dueAll("odds of none", new int[] {y.odds(-1, 50), y.odds(0, 50), y.odds(1, 50), y.odds(-1, 0)},
                250000000, 500000000, 250000000, 1000000000);
        StainStreet nine = Check.street("hm8p3;hm9;f");
        Check.dueAll("nine at most", new int[] {nine.odds(0, 40), nine.odds(1, 40)}, 400000000, 600000000);
        StainStreet eight = Check.street("h;h;h;h;h;h;h;h;f");
        Check.due("cut house by house", eight.odds(7, 33), 20000348);
        eight.piano(0);
        Check.dueAll("refused", new int[] {x.odds(2, 50), x.odds(-2, 50), x.odds(0, -1), x.odds(0, 101),
            x.odds(MAX, 50), x.odds(-1, MIN)}, -1, -1, -1, -1, -1, -1);
        Check.due("nothing is changed", x.house(0, 0), 3);
    }

    private static void oddsCut() {
        // All eight at once: 33 hundredths, cut eight times.
        StainStreet x = Check.street("hm3;hm3;hm3;hm3;hm3;hm3;hm3;hm3;f");
        Check.law(x, "y:m>3?0;y:1");
        Check.due("odds of none", x.odds(-1, 33), 140640);
    }

    private static void shares() {
        StainStreet x = Check.street("hm5;hm4;hp0;f");
        Check.dueAll("shares", new int[] {x.shares(0, 100), x.shares(1, 100), x.shares(2, 100), x.shares(0, 0),
            x.shares(0, 999), x.shares(0, 1)}, 54, 45, 0, 0, 544, 0);
        Check.dueAll("refused", new int[] {x.shares(3, 1), x.shares(-1, 1), x.shares(0, -1), x.shares(0, 1000),
            x.shares(MAX, MAX)}, -1, -1, -1, -1, -1);
        Check.due("all 0", Check.street("hp0;hp0;f").shares(0, 100), 0);
        Check.due("of eight", Check.street("h;h;h;h;h;h;h;h;f").shares(7, 100), 12);
        StainStreet y = Check.street("h;hp0;f");
        Check.law(y, "y:99");
        Check.due("one has all", y.shares(0, 999), 999);
    }

    private static void withoutStreet() {
        StainStreet x = new StainStreet();
        Check.dueAll("HIDDEN", new int[] {x.ahead(0, 0), x.goesTo(), x.least(0, 0), x.game(0, 1, 0, 0, 0)},
                HIDDEN, HIDDEN, HIDDEN, HIDDEN);
        Check.dueAll("NONE", new int[] {x.soonest(0), x.visits(1), x.empty(1), x.rid(), x.white(0),
            x.treaties(1, -1), x.rests(0, 1, -1), x.odds(-1, 0), x.odds(0, 0), x.shares(0, 0)},
                -1, -1, -1, -1, -1, -1, -1, -1, -1, -1);
    }

    public static void main(String[] args) {
        ahead();
        aheadWithPianos();
        soonest();
        visits();
        empty();
        goesTo();
        least();
        leastByLaws();
        rid();
        white();
        treaties();
        games();
        rests();
        odds();
        oddsCut();
        shares();
        withoutStreet();
        Check.end("ReckoningsTest");
    }
}
