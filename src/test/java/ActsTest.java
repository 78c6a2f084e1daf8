/** Promises 10 to 18, 20, 45 and 46: acts, days, years, undoing, images. */
public final class ActsTest {
    private static final int HIDDEN = -1000000;
    private static final int MAX = Integer.MAX_VALUE;
    private static final int MIN = Integer.MIN_VALUE;

    private static void shamming() {
        StainStreet x = Check.street("hm3;hm3;f");
        Check.dueAll("sham", new int[] {x.sham(0, 9), x.sham(0, -9), x.sham(1, 1), x.sham(1, 0)}, 9, -9, 1, 0);
        Check.due("SHAM", x.house(0, 4), -9);
        Check.dueAll("refused",
                new int[] {x.sham(2, 1), x.sham(-1, 50), x.sham(0, 10), x.sham(0, -10), x.sham(1, 0), x.sham(MAX, 0),
                    x.sham(0, MIN)}, HIDDEN, HIDDEN, HIDDEN, HIDDEN, HIDDEN, HIDDEN, HIDDEN);
        Check.dueAll("status", Check.statuses(x), 3, 3, 1, 0, 0);
        Check.due("acts", x.count(11), 4);
    }

    private static void hanging() {
        StainStreet x = Check.street("sc5;hg2;h;f");
        Check.due("hang(0, 6)", x.hang(0, 6), 1);
        Check.due("hang(1, 2), too few", x.hang(1, 2), -1);
        Check.due("hang(1, 1)", x.hang(1, 1), 0);
        Check.due("hang(0, 0)", x.hang(0, 0), 0);
        Check.dueAll("HANGINGS", Check.ofHouses(x, 2), 0, 1);
        Check.dueAll("refused", new int[] {x.hang(2, 1), x.hang(0, 10), x.hang(0, -1), x.hang(0, 0), x.hang(-1, 99),
            x.hang(1, 9), x.hang(MIN, 1), x.hang(1, MAX), x.hang(1, MIN)}, -1, -1, -1, -1, -1, -1, -1, -1, -1);
        Check.dueAll("status", Check.statuses(x), 3, 4, 1, 2, 0);
        Check.due("acts", x.count(11), 3);
    }

    private static void whitening() {
        StainStreet x = Check.street("sc7;hw7;hw9;h;f");
        Check.dueAll("whiten", new int[] {x.whiten(0), x.whiten(0), x.whiten(0), x.whiten(1)}, 5, 3, -1, -1);
        Check.dueAll("whiten", new int[] {x.whiten(2), x.whiten(2), x.whiten(1), x.whiten(3), x.whiten(-1)},
                1, -1, -1, -1, -1);
        Check.dueAll("WHITE", Check.ofHouses(x, 1), 9, 9, 1);
        Check.dueAll("status", Check.statuses(x), 2, 0, 3, 1, 0);
        StainStreet y = Check.street("sc2;h;h;f");
        Check.dueAll("whiten with the last two", new int[] {y.whiten(0), y.whiten(0)}, 0, -1);
    }

    private static void pianos() {
        StainStreet x = Check.street("sd2h0c8;hm9;hm1;f");
        Check.dueAll("piano", new int[] {x.piano(0), x.piano(0), x.piano(1), x.piano(1)}, 5, -1, 2, -1);
        Check.dueAll("refused", new int[] {x.piano(2), x.piano(-1), x.piano(MIN)}, -1, -1, -1);
        Check.dueAll("status", Check.statuses(x), 3, 0, 2, 0, 0);
        Check.due("PIANOS", x.count(9), 3);
        x.days(1);
        Check.due("PIANOS behind a day that is none for moving", x.count(9), 3);
        Check.due("where it is behind the moving day", x.days(1), -2);
        Check.due("PIANOS behind it", x.count(9), 0);
        Check.due("piano, too few", x.piano(0), -1);
        Check.dueAll("status", Check.statuses(x), 3, 0, 2, 1, 0);
        StainStreet y = Check.street("sc3;h;h;f");
        Check.dueAll("a piano for the last three", new int[] {y.piano(0), y.piano(1)}, 0, -1);
        StainStreet stays = Check.street("sd1h0;hm9;hm1;f");
        stays.piano(1);
        Check.due("it stays", stays.days(1), 0);
        Check.due("the piano is away then", stays.count(9), 0);
    }

    private static void moving() {
        StainStreet x = Check.street("hp1;hp8;hp0;f");
        Check.dueAll("move", new int[] {x.move(0, 1), x.move(1, 0), x.move(1, 0)}, 9, 1, 2);
        Check.dueAll("PEOPLE", Check.ofHouses(x, 3), 2, 7, 0);
        Check.due("none to move", x.move(2, 0), -1);
        x.move(0, 1);
        x.move(0, 1);
        Check.due("nine there and none to move", x.move(2, 1), -1);
        Check.due("alike and nine", x.move(1, 1), -1);
        Check.due("no such ones, alike", x.move(3, 3), -1);
        Check.due("no such other", x.move(0, -1), -1);
        Check.due("no such one", x.move(MAX, 0), -1);
        Check.dueAll("status", Check.statuses(x), 3, 1, 1, 1, 0);
        Check.dueAll("PEOPLE", Check.ofHouses(x, 3), 0, 9, 0);
        Check.due("CROWD", x.most(4), 9);
    }

    private static void giving() {
        StainStreet x = Check.street("sc0;h;h;f");
        Check.dueAll("give", new int[] {x.give(1), x.give(50), x.give(0), x.give(51), x.give(-1), x.give(MAX),
            x.give(MIN)}, 1, 51, -1, -1, -1, -1, -1);
        for (int i = 0; i < 18; i++) {
            x.give(50);
        }
        Check.due("COINS", x.rule(3), 951);
        Check.due("give(49) above 999", x.give(49), -1);
        Check.due("give(48)", x.give(48), 999);
        Check.due("give(1) above 999", x.give(1), -1);
        Check.dueAll("status", Check.statuses(x), 0, 7, 0, 0, 0);
    }

    private static void days() {
        StainStreet x = Check.street("sd3h1;hm5;hm2;hm9p0;ft1n1;ft2n0");
        Check.due("days(1)", x.days(1), 1);
        Check.dueAll("MIND", Check.ofHouses(x, 0), 5, 1, 9);
        Check.due("days(1)", x.days(1), 1);
        Check.due("no moving day yet", x.count(10), 0);
        // 5 + 1 against 0 + 1.
        Check.due("days(1), a moving day", x.days(1), 0);
        Check.due("the form", x.rule(2), 1);
        Check.dueAll("MIND", Check.ofHouses(x, 0), 5, 0, 9);
        Check.due("days(2)", x.days(2), 0);
        Check.dueAll("MIND", Check.ofHouses(x, 0), 3, 2, 9);
        // 2 + 1 against 2 + 1: the lowest.
        Check.due("days(1), it stays", x.days(1), 0);
        Check.due("the form stays", x.rule(2), 1);
        Check.due("the log", x.count(10), 2);
        Check.dueAll("refused", new int[] {x.days(0), x.days(-1), x.days(61), x.days(MAX), x.days(MIN)},
                -1, -1, -1, -1, -1);
        Check.dueAll("status", Check.statuses(x), 0, 5, 0, 0, 0);
        Check.due("the day", x.count(5), 6);
        Check.due("acts", x.count(11), 6);
    }

    private static void toNoneAndBack() {
        StainStreet x = Check.street("sd3h0;hm1p1;hm0p1;fn1;fn2;fn3;f");
        Check.due("to none", x.days(3), -2);
        Check.due("rule(1)", x.rule(1), 8);
        Check.due("its form", x.rule(2), 1);
        Check.due("back", x.days(3), 0);
        Check.due("its form", x.rule(2), 2);
        StainStreet none = Check.street("sd1;hp0;hp0;fn1;f");
        Check.due("none stays none", none.days(1), -2);
        Check.due("its form stays", none.rule(2), 0);
    }

    private static void mindGoesNearer() {
        StainStreet x = Check.street("sd9;hm0p3;hm9p3;hm5p3;f");
        x.moods(9);
        for (int seed = 1; seed < 9; seed++) {
            x.years(1, seed);
        }
        x.days(60);
        x.days(2);
        // Nothing stirs any more: where it is not MIND is as told again.
        for (int h = 0; h < 3; h++) {
            if (x.rule(1) != h) {
                Check.due("MIND of " + h, x.house(h, 0), new int[] {0, 9, 5}[h]);
            }
        }
    }

    private static void lastDay() {
        StainStreet x = Check.street("sd1h0;h;h;f");
        for (int i = 0; i < 166; i++) {
            x.days(60);
        }
        Check.due("the day", x.count(5), 9960);
        Check.due("days(40)", x.days(40), -1);
        Check.due("years(40, 1)", x.years(40, 1), -1);
        Check.due("days(61)", x.days(61), -1);
        Check.dueAll("status", Check.statuses(x), 0, 1, 0, 0, 1);
        Check.due("days(38)", x.days(38) >= 0, true);
        Check.due("years(2, 1)", x.years(2, 1), -1);
        Check.due("years(1, 1)", x.years(1, 1), 9999);
        Check.due("days(1)", x.days(1), -1);
        Check.dueAll("status", Check.statuses(x), 0, 1, 0, 0, 2);
        Check.due("the day", x.count(5), 9999);
        int ahead = x.ahead(1, 0);
        Check.due("ahead goes on", x.ahead(60, 0) >= 0 && ahead >= 0, true);
        Check.due("visits go on", x.visits(60), 3);
        Check.due("acts still go", x.sham(0, 3), 3);
        Check.due("undo", x.undo(), 39);
        Check.due("undo", x.undo(), 38);
        Check.due("the day", x.count(5), 9998);
        Check.due("days(1)", x.days(1) >= 0, true);
    }

    private static void moods() {
        StainStreet x = new StainStreet();
        Check.due("moods(0), it is so", x.moods(0), false);
        Check.due("moods(9)", x.moods(9), true);
        Check.due("moods(9), it is so", x.moods(9), false);
        Check.due("moods(10)", x.moods(10), false);
        Check.due("moods(-1)", x.moods(-1), false);
        Check.due("moods(max)", x.moods(MAX), false);
        Check.due("count(6)", x.count(6), 9);
        Check.due("moods(0)", x.moods(0), true);
        Check.dueAll("status", Check.statuses(x), 0, 0, 0, 0, 0);
    }

    private static void years(String street, int moods, int n, long seed, int[] minds, int... people) {
        StainStreet x = Check.street(street);
        x.moods(moods);
        Check.due("years(" + n + ", " + seed + ")", x.years(n, seed), n);
        Check.dueAll("MIND by " + moods + ", " + seed, Check.ofHouses(x, 0), minds);
        Check.dueAll("PEOPLE by " + moods + ", " + seed, Check.ofHouses(x, 3), people);
    }

    private static void years() {
        String flat = "sd9;hm0;hm0;hm0;f";
        // Seed 3 draws 9 1 2, 8 0 2, 5 2 2 of 10 3 3.
        years("sd9;hm5;hm5;hm5;f", 0, 3, 3L, new int[] {5, 5, 5}, 1, 1, 4);
        years("sd9;hm5;hm5p0;hm5;f", 0, 1, 3L, new int[] {5, 5, 5}, 2, 0, 2);
        years("sd9;hm5;hm5p1;hm5p8;f", 0, 1, 3L, new int[] {5, 5, 5}, 2, 0, 9);
        years("sd9;hm5;hm5;hm5p9;f", 0, 1, 3L, new int[] {5, 5, 5}, 2, 2, 9);
        // Seed 1 draws 4 0 6 0 0 of 10 3 10 3 3; a day takes one of 6.
        years(flat, 5, 1, 1L, new int[] {5, 0, 0}, 2, 2, 2);
        years(flat, 4, 1, 1L, new int[] {0, 0, 0}, 2, 2, 2);
        // Seed -1 draws 8 2 7 2 0 of 10 3 10 3 3, and 8 2 1 of 10 3 3.
        years(flat, 9, 1, -1L, new int[] {0, 0, 6}, 3, 2, 1);
        years(flat, 8, 1, -1L, new int[] {0, 0, 0}, 2, 3, 1);
        // The highest seed draws 4 1 3 0 2, 3 2 3 2 1 of 10 3 10 3 3.
        years(flat, 5, 2, Long.MAX_VALUE, new int[] {0, 1, 2}, 1, 3, 2);
    }

    private static void yearsAsActs() {
        StainStreet x = Check.street("sd2h0;hm5;hm5;hm5;f");
        Check.dueAll("refused", new int[] {x.years(0, 1), x.years(61, 1), x.years(-1, 1), x.years(MAX, 1)},
                -1, -1, -1, -1);
        Check.due("years(60, 3)", x.years(60, 3L), 60);
        for (int i = 0; i < 40; i++) {
            x.undo();
        }
        Check.due("the day", x.count(5), 20);
        x = Check.street("sd2h0;hm5;hm5;hm5;f");
        Check.due("years(3, 3)", x.years(3, 3L), 3);
        Check.due("acts", x.count(11), 3);
        Check.due("the log", x.count(10), 1);
        Check.due("undo", x.undo(), 2);
        Check.dueAll("PEOPLE", Check.ofHouses(x, 3), 1, 1, 4);
        Check.due("undo", x.undo(), 1);
        Check.dueAll("PEOPLE", Check.ofHouses(x, 3), 2, 1, 3);
        Check.due("the log", x.count(10), 0);
        Check.due("undo", x.undo(), 0);
        Check.dueAll("PEOPLE", Check.ofHouses(x, 3), 2, 2, 2);
        Check.due("the same seed draws the same", x.years(1, 3L), 1);
        Check.dueAll("PEOPLE", Check.ofHouses(x, 3), 2, 1, 3);
        Check.dueAll("status", Check.statuses(x), 0, 0, 0, 0, 0);
    }

    private static void undoing() {
        StainStreet x = Check.street("sd1h0f1c40;hm5w1g1p3;hm5;f;ft9n0");
        Check.due("undo of none", x.undo(), -1);
        x.sham(0, 4);
        x.hang(0, 3);
        x.whiten(0);
        x.piano(0);
        x.move(0, 1);
        x.give(9);
        x.sham(9, 9);
        x.days(1);
        Check.dueAll("behind all", new int[] {x.rule(1), x.rule(2), x.rule(3), x.count(5), x.count(9), x.count(10)},
                1, 0, 42, 1, 0, 1);
        Check.due("undo the day", x.undo(), 6);
        Check.dueAll("ahead of the day",
                new int[] {x.rule(1), x.rule(2), x.rule(3), x.count(5), x.count(9), x.count(10)}, 0, 1, 42, 0, 1, 0);
        Check.due("MIND", x.house(0, 0), 5);
        Check.due("undo the gift", x.undo(), 5);
        Check.due("COINS", x.rule(3), 33);
        Check.due("undo the move", x.undo(), 4);
        Check.dueAll("PEOPLE", Check.ofHouses(x, 3), 3, 2);
        Check.due("undo the piano", x.undo(), 3);
        Check.due("PIANOS", x.count(9), 0);
        Check.due("COINS", x.rule(3), 36);
        Check.due("undo the whitening", x.undo(), 2);
        Check.due("WHITE", x.house(0, 1), 1);
        Check.due("undo the hangings", x.undo(), 1);
        Check.due("HANGINGS", x.house(0, 2), 1);
        Check.due("COINS", x.rule(3), 40);
        Check.due("undo the shamming", x.undo(), 0);
        Check.due("SHAM", x.house(0, 4), 0);
        Check.due("undo of none", x.undo(), -1);
        Check.dueAll("status is not undone", Check.statuses(x), 1, 0, 0, 0, 0);
    }

    private static void undoingForty() {
        StainStreet x = Check.street("sd1h0;hm5;hm5;f");
        x.days(60);
        x.days(60);
        Check.due("acts", x.count(11), 40);
        for (int left = 39; left >= 0; left--) {
            Check.due("undo", x.undo(), left);
        }
        Check.due("undo of a 41st", x.undo(), -1);
        Check.due("the day", x.count(5), 80);
        Check.due("how long the log is", x.count(10), 60);
        Check.due("the latest", x.log(0, 0), 80);
        Check.due("the oldest is there again", x.log(59, 0), 21);
        x.days(60);
        Check.due("the oldest behind others", x.log(59, 0), 81);
        for (int i = 0; i < 40; i++) {
            x.undo();
        }
        for (int i = 0; i < 60; i++) {
            Check.due("log(" + i + ", 0)", x.log(i, 0), 100 - i);
        }
    }

    private static void images() {
        StainStreet x = Check.street("sd1h0f1c40;hm5w1g1p3;hm5;f;ft9n0");
        Check.due("back() without one", x.back(), -1);
        x.days(2);
        x.sham(1, 2);
        x.piano(1);
        Check.due("image()", x.image(), 2);
        Check.due("image() is no act", x.count(11), 4);
        int[] before = {x.rule(1), x.rule(2), x.rule(3), x.count(5), x.count(9), x.count(10), x.house(0, 0),
            x.house(1, 4), x.log(0, 1)};
        x.whiten(0);
        x.hang(1, 4);
        x.move(0, 1);
        x.sham(1, -2);
        x.sham(0, -2);
        x.days(60);
        x.days(3);
        Check.due("back()", x.back(), 2);
        Check.dueAll("as it was", new int[] {x.rule(1), x.rule(2), x.rule(3), x.count(5), x.count(9), x.count(10),
            x.house(0, 0), x.house(1, 4), x.log(0, 1)}, before);
        Check.dueAll("WHITE", Check.ofHouses(x, 1), 1, 0);
        Check.dueAll("HANGINGS", Check.ofHouses(x, 2), 1, 0);
        Check.dueAll("PEOPLE", Check.ofHouses(x, 3), 3, 2);
        Check.dueAll("SHAM", Check.ofHouses(x, 4), 0, 2);
        Check.due("days of the log", x.log(0, 0), 2);
        Check.due("days of the log", x.log(1, 0), 1);
        Check.due("no act can be undone", x.undo(), -1);
        x.days(1);
        Check.due("back() again", x.back(), 2);
        x.days(3);
        Check.due("image() instead", x.image(), 5);
        x.days(1);
        Check.due("back()", x.back(), 5);
        Check.due("the log", x.count(10), 5);
    }

    private static void imageOfALongLog() {
        StainStreet x = Check.street("sd1h0;hm5;hm5;fn1;fn2;f");
        x.days(60);
        x.days(40);
        x.image();
        int[] places = new int[60];
        int[] forms = new int[60];
        for (int i = 0; i < 60; i++) {
            places[i] = x.log(i, 1);
            forms[i] = x.log(i, 2);
        }
        x.days(1);
        x.move(1, 0);
        x.move(1, 0);
        x.days(60);
        x.days(60);
        x.days(60);
        x.back();
        for (int i = 0; i < 60; i++) {
            Check.due("log(" + i + ", 0)", x.log(i, 0), 100 - i);
            Check.due("log(" + i + ", 1)", x.log(i, 1), places[i]);
            Check.due("log(" + i + ", 2)", x.log(i, 2), forms[i]);
        }
        x.days(50);
        for (int i = 0; i < 40; i++) {
            x.undo();
        }
        for (int i = 0; i < 60; i++) {
            Check.due("log(" + i + ", 0)", x.log(i, 0), 110 - i);
        }
    }

    private static void withoutStreet() {
        StainStreet x = new StainStreet();
        Check.due("undo()", x.undo(), -1);
        Check.due("image()", x.image(), -1);
        Check.due("back()", x.back(), -1);
        Check.due("years(1, 1)", x.years(1, 1), -1);
        Check.dueAll("status", Check.statuses(x), 0, 0, 0, 0, 0);
        int[] all = {x.sham(0, 99), x.hang(0, 99), x.whiten(0), x.piano(0), x.move(0, 0), x.give(99), x.days(99)};
        Check.dueAll("all refused", all, HIDDEN, -1, -1, -1, -1, -1, -1);
        Check.dueAll("status", Check.statuses(x), 7, 0, 0, 0, 0);
    }

    public static void main(String[] args) {
        shamming();
        hanging();
        whitening();
        pianos();
        moving();
        giving();
        days();
        toNoneAndBack();
        mindGoesNearer();
        lastDay();
        moods();
        years();
        yearsAsActs();
        undoing();
        undoingForty();
        images();
        imageOfALongLog();
        withoutStreet();
        Check.end("ActsTest");
    }
}
