import java.util.function.ToLongFunction;

/** The edges of what is reckoned apart (Terms, part 3), and of promises 22 to 32 and 40 to 44. */
public final class ReckoningEdgesTest {
    private static final int HIDDEN = -1000000;
    private static final int MAX = Integer.MAX_VALUE;
    private static final int MIN = Integer.MIN_VALUE;
    private static final int[] NO_HOUSES = {-1, 3, 7, 8, MIN, MAX};

    private static StainStreet busy() {
        StainStreet x = Check.street("sd2h0c50;hm5w2g1p4;hm4;hm3p3;fn1;fn2;ft7n0");
        Check.law(x, "y:d=9?m;y:m+w+t-g");
        x.moods(3);
        x.days(5);
        x.image();
        x.sham(1, 3);
        x.piano(2);
        x.seen(2, 1, true);
        x.was(1, 1, true);
        Check.feed(x, "h;h;f");
        return x;
    }

    private static void refused(String call, ToLongFunction<StainStreet> calling, long answer) {
        Twins.refused(call, ReckoningEdgesTest::busy, calling, answer, -1);
    }

    private static void refusedWithoutStreet(String call, ToLongFunction<StainStreet> calling, long answer) {
        Twins.refused(call + " without a STREET", StainStreet::new, calling, answer, -1);
    }

    private static void apart(String call, ToLongFunction<StainStreet> calling) {
        Twins.changesNothing(call, ReckoningEdgesTest::busy, calling);
    }

    private static void allApart() {
        Check.by("Apart, from as it is now");
        apart("ahead(60, 0)", x -> x.ahead(60, 0));
        apart("ahead(60, 1)", x -> x.ahead(60, 1));
        apart("soonest(2)", x -> x.soonest(2));
        apart("visits(60)", x -> x.visits(60));
        apart("empty(60)", x -> x.empty(60));
        apart("goesTo()", x -> x.goesTo());
        apart("least(2, 0)", x -> x.least(2, 0));
        apart("least(0, 1)", x -> x.least(0, 1));
        apart("rid()", x -> x.rid());
        apart("white(1)", x -> x.white(1));
        apart("treaties(2, -1)", x -> x.treaties(2, -1));
        apart("game(0, 1, 0, 6, 0)", x -> x.game(0, 1, 0, 6, 0));
        apart("rests(0, 1, -1)", x -> x.rests(0, 1, -1));
        apart("who(5, -1)", x -> x.who(5, -1));
        apart("best(5)", x -> x.best(5));
        apart("follows(1, 999)", x -> x.follows(1, 999));
        apart("ring(0)", x -> x.ring(0));
        apart("forms()", x -> x.forms());
        apart("odds(0, 33)", x -> x.odds(0, 33));
        apart("shares(0, 999)", x -> x.shares(0, 999));
        apart("used(0)", x -> x.used(0));
        apart("near(1)", x -> x.near(1));
        for (int what = 0; what < 6; what++) {
            int of = what;
            apart("most(" + of + ")", x -> x.most(of));
        }
    }

    private static void ahead() {
        Check.by("AHEAD of n DAYS (0 .. 60): the HOUSE (NONE), its FORM");
        StainStreet x = busy();
        Check.dueAll("now", new int[] {x.ahead(0, 0), x.ahead(0, 1)}, x.rule(1), x.rule(2));
        for (int n = 1; n <= 60; n++) {
            StainStreet lived = busy();
            Check.due("ahead(" + n + ", 0)", x.ahead(n, 0), lived.days(n));
            Check.due("ahead(" + n + ", 1)", x.ahead(n, 1), lived.rule(2));
        }
        Check.due("ahead(0, 0) in none", Check.street("h;h;f").ahead(0, 0), -1);
        Check.due("ahead(60, 0) in none", Check.street("hp0;hp0;f").ahead(60, 0), -1);
        Check.by("22: HIDDEN: no STREET, out of bounds, no such what");
        for (int n : new int[] {-1, 61, MIN, MAX}) {
            refused("ahead(" + n + ", 0)", y -> y.ahead(n, 0), HIDDEN);
            refused("ahead(" + n + ", 1)", y -> y.ahead(n, 1), HIDDEN);
        }
        for (int what : new int[] {-1, 2, MIN, MAX}) {
            refused("ahead(1, " + what + ")", y -> y.ahead(1, what), HIDDEN);
        }
        refusedWithoutStreet("ahead(0, 0)", y -> y.ahead(0, 0), HIDDEN);
        refusedWithoutStreet("ahead(1, 1)", y -> y.ahead(1, 1), HIDDEN);
    }

    private static StainStreet atTheLastDay() {
        // To and fro on each MOVING DAY; behind 1,428 of them it is in 0 again.
        StainStreet x = Check.street("sd7h0;hm5;hm4;f");
        for (int i = 0; i < 166; i++) {
            x.days(60);
        }
        x.days(39);
        return x;
    }

    private static void behindTheLastDay() {
        Check.by("DAYS go on behind 9,999");
        StainStreet x = atTheLastDay();
        Check.dueAll("now", new int[] {x.count(5), x.rule(1)}, 9999, 0);
        Check.dueAll("ahead to 10,002, 10,003, 10,009, 10,010", new int[] {x.ahead(3, 0), x.ahead(4, 0),
            x.ahead(10, 0), x.ahead(11, 0)}, 0, 1, 1, 0);
        Check.dueAll("soonest, visits, empty", new int[] {x.soonest(0), x.soonest(1), x.visits(3), x.visits(4),
            x.visits(60), x.empty(60)}, 0, 4, 1, 3, 3, 0);
        Check.due("the DAY is as it was", x.count(5), 9999);
    }

    /** It is in none, from the ninth DAY on in 0 and 1, on DAY 63 in 2. */
    private static StainStreet late(int days) {
        StainStreet x = Check.street("sd9;hw0;hw1;hw2;ft9n1;fn2;fn3;fn4;fn5;fn0");
        Check.law(x, "y:d=9?1;y:t=9?w;y:w<2?d;y:0");
        if (days > 0) {
            x.days(days);
        }
        return x;
    }

    private static void soonest() {
        Check.by("SOONEST of a HOUSE: behind how many DAYS (0 .. 60) it is there; 23: NONE: not within 60");
        Check.due("it is there", Check.street("sh1;h;h;f").soonest(1), 0);
        Check.due("behind one", Check.street("sd1;h;h;f").soonest(0), 1);
        Check.due("behind 59", late(4).soonest(2), 59);
        Check.due("behind 60", late(3).soonest(2), 60);
        Check.due("behind 61", late(2).soonest(2), -1);
        Check.due("never", Check.street("hp0;hp0;f").soonest(0), -1);
        Check.by("23: NONE: no such HOUSE");
        for (int house : NO_HOUSES) {
            refused("soonest(" + house + ")", y -> y.soonest(house), -1);
        }
        refusedWithoutStreet("soonest(0)", y -> y.soonest(0), -1);
    }

    private static void visits() {
        Check.by("VISITS of n DAYS (1 .. 60): HOUSES in which it is behind a DAY of these");
        Check.dueAll("from DAY 3 on", new int[] {late(3).visits(5), late(3).visits(6), late(3).visits(59),
            late(3).visits(60)}, 0, 1, 3, 7);
        Check.due("61 are too many", late(2).visits(60), 3);
        StainStreet now = Check.street("sd1h0;hm1;hm9;f");
        Check.due("where it is now is none of these", now.visits(1), 2);
        Check.due("the eighth", Check.street("sd1;h;h;h;h;h;h;h;hm9;f").visits(1), 128);
        Check.by("24: NONE: no STREET, out of bounds");
        for (int n : new int[] {0, -1, 61, MIN, MAX}) {
            refused("visits(" + n + ")", y -> y.visits(n), -1);
        }
        refusedWithoutStreet("visits(1)", y -> y.visits(1), -1);
    }

    private static void empty() {
        Check.by("EMPTY of n DAYS: behind how many of these it is in none");
        Check.dueAll("in none at first", new int[] {late(0).empty(1), late(0).empty(8), late(0).empty(9),
            late(0).empty(60)}, 1, 8, 8, 8);
        StainStreet always = Check.street("hp0;hp0;f");
        Check.dueAll("always", new int[] {always.empty(1), always.empty(59), always.empty(60)}, 1, 59, 60);
        StainStreet never = Check.street("sd1h0;hm9;h;f");
        Check.dueAll("never", new int[] {never.empty(1), never.empty(60)}, 0, 0);
        StainStreet then = Check.street("sd9h0;hm1p0;hp0;f");
        Check.dueAll("from the ninth on", new int[] {then.empty(8), then.empty(9), then.empty(60)}, 0, 1, 52);
        Check.by("25: NONE: no STREET, out of bounds");
        for (int n : new int[] {0, -1, 61, MIN, MAX}) {
            refused("empty(" + n + ")", y -> y.empty(n), -1);
        }
        refusedWithoutStreet("empty(1)", y -> y.empty(1), -1);
    }

    private static void goesTo() {
        Check.by("TO: where it would go, if it was a MOVING DAY now (all as now); 26: NONE: none");
        Check.due("0 everywhere", Check.street("hp0;hm0p1;f").goesTo(), -1);
        Check.due("1 in the last", Check.street("hp0;hm1p1;f").goesTo(), 1);
        Check.due("of several the lowest", Check.street("hp0;hm1p1;hm1p1;f").goesTo(), 1);
        Check.due("MIND as now, not one less", Check.street("sh0;hm3;hm3;f").goesTo(), 0);
        StainStreet piano = Check.street("sh0;hm9;hm3;f");
        piano.piano(0);
        Check.due("PIANOS as now", piano.goesTo(), 1);
        refusedWithoutStreet("goesTo()", y -> y.goesTo(), HIDDEN);
    }

    private static void least(String street, int house, int shamming, int sham) {
        StainStreet x = Check.street(street);
        Check.dueAll("least(" + house + ") of " + street, new int[] {x.least(house, 0), x.least(house, 1)},
                shamming, sham);
    }

    private static void leastShamming() {
        Check.by("LEAST for a HOUSE: the least SHAMMING by which it would go there now");
        least("hm3;hm3;f", 0, 0, 0);
        least("hm0p1;hm0p1;f", 0, 1, 1);
        Check.by("LEAST: SHAM of this HOUSE then (of several the least)");
        least("hm3;hm3;f", 1, 1, 0);
        least("hm5;hm3;f", 1, 3, 0);
        least("hm3;hm3;hm3;f", 2, 1, 1);
        Check.by("LEAST: SHAM -9 .. 9");
        // 4 + 9 against 22 - 9: alike, so it goes to the lowest.
        least("hm3;hm9w9p9;f", 0, 18, 9);
        least("hm3;hm9w9p9g9;hm9w9p9;f", 0, 18, 9);
        least("hm9w9p9;hm3;f", 1, HIDDEN, HIDDEN);
        // 4 + 9 against 21 - 9.
        least("hm9w8p9;hm3;f", 1, 18, 9);
        StainStreet high = Check.street("hm9w9p9;hm3;f");
        high.sham(1, 9);
        Check.dueAll("no SHAM above 9", new int[] {high.least(1, 0), high.least(1, 1)}, HIDDEN, HIDDEN);
        StainStreet full = Check.street("hm9w8p9;hm3;f");
        full.sham(1, 9);
        full.sham(0, 9);
        Check.dueAll("all eighteen of the other", new int[] {full.least(1, 0), full.least(1, 1)}, 18, 9);
        Check.by("27: HIDDEN: by none");
        least("hp0;h;f", 0, HIDDEN, HIDDEN);
        StainStreet piano = Check.street("h;h;f");
        piano.piano(0);
        Check.dueAll("with a PIANO", new int[] {piano.least(0, 0), piano.least(0, 1)}, HIDDEN, HIDDEN);
        Check.by("27: HIDDEN: no such HOUSE, no such what");
        for (int house : NO_HOUSES) {
            refused("least(" + house + ", 0)", y -> y.least(house, 0), HIDDEN);
            refused("least(" + house + ", 1)", y -> y.least(house, 1), HIDDEN);
        }
        for (int what : new int[] {-1, 2, MIN, MAX}) {
            refused("least(0, " + what + ")", y -> y.least(0, what), HIDDEN);
        }
        refusedWithoutStreet("least(0, 0)", y -> y.least(0, 0), HIDDEN);
    }

    private static void rid() {
        Check.by("RID: the least SHAMMING of that HOUSE alone (0, too) by which it would not go there now");
        Check.due("0", Check.street("sh0;hm3;hm4;f").rid(), 0);
        Check.due("1", Check.street("sh0;hm3;hm3;f").rid(), 1);
        Check.due("0 of two alike", Check.street("sh1;hm3;hm3;f").rid(), 0);
        Check.due("9, to none", Check.street("sh0;hm9p1;hp0;f").rid(), 9);
        Check.due("by none", Check.street("sh0;hm9p2;hp0;f").rid(), -1);
        StainStreet x = Check.street("sh0;hm9p1;hp0;f");
        x.sham(0, 9);
        Check.due("18", x.rid(), 18);
        StainStreet more = Check.street("sh0;hm3;hp0;f");
        Check.law(more, "y:m<12?9");
        Check.due("9 more", more.rid(), 9);
        Check.law(more, "y:m<13?9");
        Check.due("10 more would be", more.rid(), -1);
        Check.by("28: NONE: by none, it is in none, no STREET");
        Twins.refused("rid() in none", () -> Check.street("sh8;hm9;h;f"), y -> y.rid(), -1, -1);
        Twins.refused("rid() by none", () -> Check.street("sh1;hp0;hm9p2;f"), y -> y.rid(), -1, -1);
        refusedWithoutStreet("rid()", y -> y.rid(), -1);
    }

    private static void white() {
        Check.by("WHITE for a HOUSE: the least WHITE (0 .. 9) with which it would go there now");
        Check.due("0", Check.street("hm3;hm3;f").white(0), 0);
        Check.due("1", Check.street("hm3;hm3;f").white(1), 1);
        Check.due("0, though WHITE is 9", Check.street("hm3w9;hm3;f").white(0), 0);
        Check.due("9", Check.street("hm9p5;hm3p1;f").white(1), 9);
        Check.due("10 would be", Check.street("hm9p6;hm3p1;f").white(1), -1);
        Check.due("9 of the first", Check.street("hm3p1;hm9p6;f").white(0), 9);
        Check.due("10 of the first would be", Check.street("hm3p1;hm9p8;f").white(0), -1);
        Check.by("29: NONE: with none, no such HOUSE");
        Twins.refused("white(0) of no PEOPLE", () -> Check.street("hp0;h;f"), y -> y.white(0), -1, -1);
        for (int house : NO_HOUSES) {
            refused("white(" + house + ")", y -> y.white(house), -1);
        }
        refusedWithoutStreet("white(0)", y -> y.white(0), -1);
    }

    private static void treaties() {
        Check.by("TREATIES for k (1 .. 3): how many (i NONE), the i-th (rising)");
        StainStreet x = Check.street("hm9w9p9;h;h;h;f");
        Check.dueAll("of one", new int[] {x.treaties(1, -1), x.treaties(1, 0), x.treaties(1, 1), x.treaties(1, 2),
            x.treaties(1, 3)}, 3, 2, 4, 8, -1);
        Check.dueAll("of two", new int[] {x.treaties(2, -1), x.treaties(2, 0), x.treaties(2, 1), x.treaties(2, 2),
            x.treaties(2, 3)}, 3, 6, 10, 12, -1);
        Check.dueAll("of three", new int[] {x.treaties(3, -1), x.treaties(3, 0), x.treaties(3, 1)}, 1, 14, -1);
        StainStreet two = Check.street("h;h;f");
        Check.dueAll("all, it goes to none", new int[] {two.treaties(2, -1), two.treaties(2, 0)}, 1, 3);
        Check.dueAll("the lowest set", new int[] {two.treaties(1, -1), two.treaties(1, 0), two.treaties(1, 1)}, 2, 1, 2);
        Check.dueAll("three of two", new int[] {two.treaties(3, -1), two.treaties(3, 0)}, 0, -1);
        StainStreet none = Check.street("hm9w9p9;hp0;f");
        Check.dueAll("none of two", new int[] {none.treaties(2, -1), none.treaties(2, 0)}, 0, -1);
        Check.by("30: NONE: no such one, no STREET, out of bounds");
        for (int k : new int[] {0, -1, 4, MIN, MAX}) {
            refused("treaties(" + k + ", -1)", y -> y.treaties(k, -1), -1);
            refused("treaties(" + k + ", 0)", y -> y.treaties(k, 0), -1);
        }
        for (int i : new int[] {-2, 3, MIN, MAX}) {
            refused("treaties(1, " + i + ")", y -> y.treaties(1, i), -1);
        }
        refusedWithoutStreet("treaties(1, -1)", y -> y.treaties(1, -1), -1);
        refusedWithoutStreet("treaties(1, 0)", y -> y.treaties(1, 0), -1);
    }

    private static void games() {
        Check.by("GAME: x, y SHAMS (0 .. 6: 3 less than this); 9 less, and less how far x (y) is from 3");
        StainStreet x = Check.street("hm5;hm5;f");
        int[] far = {3, 2, 1, 0, 1, 2, 3};
        for (int a = 0; a < 7; a++) {
            for (int b = 0; b < 7; b++) {
                String call = "game(0, 1, " + a + ", " + b + ", ";
                Check.due(call + "0)", x.game(0, 1, a, b, 0), (a >= b ? -9 : 0) - far[a]);
                Check.due(call + "1)", x.game(0, 1, a, b, 1), (a >= b ? 0 : -9) - far[b]);
            }
        }
        Check.by("31: HIDDEN: no such ones, alike, out of bounds");
        for (int house : NO_HOUSES) {
            refused("game(" + house + ", 1, 3, 3, 0)", y -> y.game(house, 1, 3, 3, 0), HIDDEN);
            refused("game(1, " + house + ", 3, 3, 0)", y -> y.game(1, house, 3, 3, 0), HIDDEN);
        }
        for (int v : new int[] {-1, 7, MIN, MAX}) {
            refused("game(0, 1, " + v + ", 3, 0)", y -> y.game(0, 1, v, 3, 0), HIDDEN);
            refused("game(0, 1, 3, " + v + ", 0)", y -> y.game(0, 1, 3, v, 0), HIDDEN);
        }
        for (int what : new int[] {-1, 2, MIN, MAX}) {
            refused("game(0, 1, 3, 3, " + what + ")", y -> y.game(0, 1, 3, 3, what), HIDDEN);
        }
        refused("game(2, 2, 3, 3, 0)", y -> y.game(2, 2, 3, 3, 0), HIDDEN);
        refusedWithoutStreet("game(0, 1, 3, 3, 0)", y -> y.game(0, 1, 3, 3, 0), HIDDEN);
    }

    private static void rests() {
        Check.by("RESTS: how many (i NONE), the i-th (rising)");
        StainStreet none = Check.street("hm5;hm5;f");
        Check.dueAll("none", new int[] {none.rests(0, 1, -1), none.rests(0, 1, 0)}, 0, -1);
        StainStreet one = Check.street("hm3;hm3;hm9p9;f");
        Check.dueAll("one", new int[] {one.rests(0, 1, -1), one.rests(0, 1, 0), one.rests(0, 1, 1)}, 1, 33, -1);
        StainStreet four = Check.street("hm5;hm3;hm3;f");
        Check.law(four, "y:m=3?9;y:1");
        Check.dueAll("four", new int[] {four.rests(1, 2, -1), four.rests(1, 2, 0), four.rests(1, 2, 1),
            four.rests(1, 2, 2), four.rests(1, 2, 3), four.rests(1, 2, 4)}, 4, 22, 24, 42, 44, -1);
        StainStreet anyway = Check.street("hm3;hm9w9p9;hm3;f");
        Check.dueAll("it comes anyway", new int[] {anyway.rests(1, 0, -1), anyway.rests(1, 0, 0),
            anyway.rests(1, 0, 1), anyway.rests(0, 1, -1), anyway.rests(2, 1, 0)}, 1, 33, -1, 1, 33);
        StainStreet ends = Check.street("hw5;hm3;hm3;f");
        Check.law(ends, "y:w=5?5;y:m<1|m>5?1;y:9");
        Check.dueAll("at the ends, 0 and 6", new int[] {ends.rests(1, 2, -1), ends.rests(1, 2, 0),
            ends.rests(1, 2, 1), ends.rests(1, 2, 2), ends.rests(1, 2, 3)}, 4, 0, 6, 60, 66);
        Check.by("32: NONE: no such one, no such HOUSES, alike");
        for (int house : NO_HOUSES) {
            refused("rests(" + house + ", 1, -1)", y -> y.rests(house, 1, -1), -1);
            refused("rests(1, " + house + ", -1)", y -> y.rests(1, house, -1), -1);
        }
        for (int i : new int[] {-2, 49, MIN, MAX}) {
            refused("rests(0, 1, " + i + ")", y -> y.rests(0, 1, i), -1);
        }
        refused("rests(2, 2, -1)", y -> y.rests(2, 2, -1), -1);
        refusedWithoutStreet("rests(0, 1, -1)", y -> y.rests(0, 1, -1), -1);
    }

    private static void odds() {
        Check.by("ODDS of a HOUSE for a chance (0 .. 100)");
        StainStreet x = Check.street("hm3;hm3;f");
        Check.dueAll("chance 0", new int[] {x.odds(0, 0), x.odds(1, 0), x.odds(-1, 0)}, 1000000000, 0, 0);
        Check.dueAll("chance 1", new int[] {x.odds(0, 1), x.odds(1, 1), x.odds(-1, 1)}, 990100000, 9900000, 0);
        Check.dueAll("chance 99", new int[] {x.odds(0, 99), x.odds(1, 99)}, 990100000, 9900000);
        Check.dueAll("chance 100", new int[] {x.odds(0, 100), x.odds(1, 100)}, 1000000000, 0);
        Check.by("ODDS: MIND is one more by chance (9 at most)");
        StainStreet nine = Check.street("hm8p1;hm9p1;f");
        Check.dueAll("8 and 9", new int[] {nine.odds(0, 100), nine.odds(1, 100)}, 1000000000, 0);
        Check.dueAll("9 and 9", new int[] {Check.street("hm9p1;hm9p1;f").odds(0, 50),
            Check.street("hm9p1;hm9p1;f").odds(1, 50)}, 1000000000, 0);
        Check.by("ODDS: HOUSE by HOUSE, 100ths of each part, cut");
        StainStreet four = Check.street("h;h;h;h;f");
        Check.law(four, "y:m>3?0;y:1");
        Check.due("one in a hundred, four times", four.odds(-1, 1), 10);
        StainStreet five = Check.street("h;h;h;h;h;f");
        Check.law(five, "y:m>3?0;y:1");
        Check.dueAll("five times, cut", new int[] {five.odds(-1, 1), five.odds(4, 1), five.odds(3, 1)}, 0, 10, 990);
        StainStreet eight = Check.street("h;h;h;h;h;h;h;h;f");
        for (int chance = 0; chance <= 100; chance++) {
            int all = eight.odds(-1, chance);
            for (int h = 0; h < 8; h++) {
                all += eight.odds(h, chance);
            }
            Check.due("all parts by " + chance, all, 1000000000);
        }
        Check.by("40: house NONE: those by which it would go to none");
        StainStreet quiet = Check.street("hm0p1;hm0p1;f");
        Check.dueAll("to none", new int[] {quiet.odds(-1, 0), quiet.odds(-1, 10), quiet.odds(-1, 100)},
                1000000000, 810000000, 0);
        Check.by("40: NONE: no such HOUSE, no STREET, out of bounds");
        for (int house : new int[] {-2, 3, 7, 8, MIN, MAX}) {
            refused("odds(" + house + ", 50)", y -> y.odds(house, 50), -1);
        }
        for (int chance : new int[] {-1, 101, MIN, MAX}) {
            refused("odds(0, " + chance + ")", y -> y.odds(0, chance), -1);
            refused("odds(-1, " + chance + ")", y -> y.odds(-1, chance), -1);
        }
        refusedWithoutStreet("odds(-1, 0)", y -> y.odds(-1, 0), -1);
        refusedWithoutStreet("odds(0, 0)", y -> y.odds(0, 0), -1);
    }

    private static void shares() {
        Check.by("SHARES of c (0 .. 999): c times MINDED by all, cut (all 0: 0)");
        StainStreet x = Check.street("hm3;hm3;hm3;f");
        Check.dueAll("a third", new int[] {x.shares(0, 0), x.shares(1, 1), x.shares(2, 2), x.shares(0, 3),
            x.shares(0, 998), x.shares(0, 999)}, 0, 0, 0, 1, 332, 333);
        StainStreet one = Check.street("hp0;h;f");
        Check.law(one, "y:99");
        Check.dueAll("all and none", new int[] {one.shares(0, 999), one.shares(1, 999)}, 0, 999);
        Check.dueAll("all 0", new int[] {Check.street("hp0;hp0;f").shares(0, 999),
            Check.street("hp0;hp0;f").shares(1, 0)}, 0, 0);
        Check.by("41: NONE: no such HOUSE, out of bounds");
        for (int house : NO_HOUSES) {
            refused("shares(" + house + ", 1)", y -> y.shares(house, 1), -1);
        }
        for (int c : new int[] {-1, 1000, MIN, MAX}) {
            refused("shares(0, " + c + ")", y -> y.shares(0, c), -1);
        }
        refusedWithoutStreet("shares(0, 0)", y -> y.shares(0, 0), -1);
    }

    private static void most() {
        Check.by("CALMEST: the least MIND and SHAM together (of several the lowest)");
        StainStreet x = Check.street("hm5w3;hm4w4;hm4w4;hm5w4;f");
        Check.due("of several", x.most(0), 1);
        x.sham(3, -2);
        Check.due("by SHAM", x.most(0), 3);
        Check.by("LOUDEST: the most MINDED (of several the lowest)");
        Check.due("of several", Check.street("hm3;hm4;hm4;f").most(1), 1);
        Check.due("0 everywhere", Check.street("hp0;hp0;f").most(1), 0);
        Check.by("WHITEST (likewise by WHITE)");
        Check.dueAll("of several", new int[] {x.most(2), Check.street("h;h;f").most(2),
            Check.street("h;hw9;f").most(2)}, 1, 0, 1);
        Check.by("CROWD: PEOPLE of all; LONELY: HOUSES (bits) without PEOPLE");
        Check.dueAll("nobody", new int[] {Check.street("hp0;hp0;f").most(4), Check.street("hp0;hp0;f").most(5)}, 0, 3);
        StainStreet full = Check.street("hp9;hp9;hp9;hp9;hp9;hp9;hp9;hp9;f");
        Check.dueAll("all full", new int[] {full.most(4), full.most(5)}, 72, 0);
        Check.due("all eight", Check.street("hp0;hp0;hp0;hp0;hp0;hp0;hp0;hp0;f").most(5), 255);
        Check.by("42: NONE: no STREET, no such what");
        for (int what : new int[] {-1, 6, MIN, MAX}) {
            refused("most(" + what + ")", y -> y.most(what), -1);
        }
        for (int what = 0; what < 6; what++) {
            int of = what;
            refusedWithoutStreet("most(" + of + ")", y -> y.most(of), -1);
        }
    }

    private static void backs() {
        Check.by("BACKS: MOVING DAYS from the latest one back in the same place as the one ahead of them in the LOG");
        StainStreet x = Check.street("sd1h0c99;hm9;hp0;f");
        int[] backs = new int[4];
        for (int i = 0; i < 4; i++) {
            backs[i] = x.most(3);
            x.days(1);
        }
        Check.dueAll("of no MOVING DAY, of one, two, three", backs, 0, 0, 1, 2);
        x.piano(0);
        x.days(1);
        Check.due("it went to none", x.most(3), 0);
        x.days(1);
        Check.due("and is there again", x.most(3), 0);
        x.days(1);
        Check.due("it stays", x.most(3), 1);
        Check.by("BACKS within the LOG: 60 at most");
        StainStreet none = Check.street("sd1;hp0;hp0;f");
        int[] days = {59, 1, 1, 60};
        int[] due = {58, 59, 59, 59};
        for (int i = 0; i < 4; i++) {
            none.days(days[i]);
            Check.due("BACKS in none", none.most(3), due[i]);
        }
    }

    private static void usedAndNear() {
        Check.by("USED of a HOUSE: in how many DAYS (0 .. 9) MIND would be 0");
        for (int m = 0; m < 10; m++) {
            Check.due("used(0) of " + m, Check.street("hm" + m + ";h;f").used(0), m);
        }
        Check.by("43: NONE: no such HOUSE");
        for (int house : NO_HOUSES) {
            refused("used(" + house + ")", y -> y.used(house), -1);
        }
        refusedWithoutStreet("used(0)", y -> y.used(0), -1);
        Check.by("NEAR of a HOUSE: HOUSES (bits) beside it");
        StainStreet two = Check.street("h;h;f");
        Check.dueAll("of two", new int[] {two.near(0), two.near(1)}, 2, 1);
        StainStreet eight = Check.street("h;h;h;h;h;h;h;h;f");
        int[] near = new int[8];
        for (int h = 0; h < 8; h++) {
            near[h] = eight.near(h);
        }
        Check.dueAll("of eight", near, 2, 5, 10, 20, 40, 80, 160, 64);
        Check.by("44: NONE: no such HOUSE");
        for (int house : NO_HOUSES) {
            refused("near(" + house + ")", y -> y.near(house), -1);
        }
        Check.due("near(8) of eight", eight.near(8), -1);
        refusedWithoutStreet("near(0)", y -> y.near(0), -1);
    }

    public static void main(String[] args) {
        allApart();
        ahead();
        behindTheLastDay();
        soonest();
        visits();
        empty();
        goesTo();
        leastShamming();
        rid();
        white();
        treaties();
        games();
        rests();
        odds();
        shares();
        most();
        backs();
        usedAndNear();
        Check.end("ReckoningEdgesTest");
    }
}
