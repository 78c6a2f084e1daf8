/** The edges of MINDED, of DAYS, MOVING DAYS and the LOG (Terms, part 2), and of promises 6 to 8, 16, 19 and 21. */
public final class DayEdgesTest {
    private static final int HIDDEN = -1000000;
    private static final int MAX = Integer.MAX_VALUE;
    private static final int MIN = Integer.MIN_VALUE;

    private static void mindedByNone() {
        Check.by("MINDED: none at first: MIND and SHAM, WHITE, PEOPLE by 2, cut, less HANGINGS");
        int[] byPeople = {0, 3, 4, 4, 5, 5, 6, 6, 7, 7};
        for (int p = 0; p < 10; p++) {
            Check.due("MINDED of " + p, Check.street("hp" + p + ";h;f").house(0, 6), byPeople[p]);
        }
        Check.by("MINDED: held within 0 .. 99, none at first");
        int[] byHangings = {2, 1, 0, 0, 0};
        for (int g = 0; g < 5; g++) {
            Check.due("MINDED with " + g, Check.street("hm2p1g" + g + ";h;f").house(0, 6), byHangings[g]);
        }
        StainStreet x = Check.street("hm9w9p9;hm0p1g9;f");
        x.sham(0, 9);
        x.sham(1, -9);
        Check.dueAll("the most and the least", Check.ofHouses(x, 6), 31, 0);
        x.sham(0, -9);
        x.sham(1, 9);
        Check.dueAll("the other way round", Check.ofHouses(x, 6), 13, 0);
        x.hang(1, 8);
        Check.due("one less", x.house(1, 6), 1);
    }

    private static void letters() {
        Check.by("letters: m MIND and SHAM together");
        StainStreet x = Check.street("hm0;hm9;f");
        Check.law(x, "y:m+20");
        x.sham(0, -9);
        x.sham(1, 9);
        Check.dueAll("m", Check.ofHouses(x, 6), 11, 38);
        Check.by("letters: d how many HOUSES further it is (0 there; 9, if it is in none)");
        StainStreet first = Check.street("sh0;h;h;h;h;h;h;h;h;f");
        Check.law(first, "y:d");
        Check.dueAll("d from the first", Check.ofHouses(first, 6), 0, 1, 2, 3, 4, 5, 6, 7);
        StainStreet last = Check.street("sh7;h;h;h;h;h;h;h;h;f");
        Check.law(last, "y:d");
        Check.dueAll("d from the last", Check.ofHouses(last, 6), 7, 6, 5, 4, 3, 2, 1, 0);
        StainStreet none = Check.street("sh8;h;h;h;h;h;h;h;h;f");
        Check.law(none, "y:d");
        Check.dueAll("d from none", Check.ofHouses(none, 6), 9, 9, 9, 9, 9, 9, 9, 9);
        Check.by("letters: t SIZE of its FORM now");
        StainStreet form = Check.street("sd1h0;h;h;ft1n1;ft9n0");
        Check.law(form, "y:t");
        Check.due("t of the first", form.house(1, 6), 1);
        Check.law(form, "y:d*10+t");
        form.days(1);
        Check.dueAll("t of the one that follows", Check.ofHouses(form, 6), 19, 9);
    }

    private static void mindedByNobody() {
        Check.by("0 by any LAW, if there are no PEOPLE or a PIANO");
        StainStreet x = Check.street("sd1h1;hp0;hp1;hp9;f");
        Check.law(x, "y:50+w");
        Check.dueAll("PEOPLE 0, 1, 9", Check.ofHouses(x, 6), 0, 50, 50);
        x.piano(2);
        x.piano(0);
        Check.dueAll("with a PIANO", Check.ofHouses(x, 6), 0, 50, 0);
        x.move(1, 0);
        Check.dueAll("the one MOVES to a PIANO", Check.ofHouses(x, 6), 0, 0, 0);
        x.days(1);
        Check.dueAll("PIANOS are away", Check.ofHouses(x, 6), 50, 0, 50);
        x.law(-1);
        Check.dueAll("by none", Check.ofHouses(x, 6), 3, 0, 7);
        x.piano(2);
        Check.dueAll("by none, with a PIANO", Check.ofHouses(x, 6), 3, 0, 0);
    }

    private static StainStreet atDay(int day) {
        StainStreet x = Check.street("sd9h0;hm5;hm4;fn1;f");
        for (int i = 0; i < day / 60; i++) {
            x.days(60);
        }
        if (day % 60 > 0) {
            x.days(day % 60);
        }
        Check.due("the DAY", x.count(5), day);
        return x;
    }

    private static void lastDay() {
        Check.by("A DAY (0 at first; 9,999 at most: none goes by then); 16: beyond 9,999 (4)");
        Check.due("at first", atDay(0).count(5), 0);
        StainStreet x = atDay(9939);
        Check.due("days(60) to the last", x.days(60) >= 0, true);
        Check.due("the last", x.count(5), 9999);
        Check.due("9,999 is a MOVING DAY of nine", x.log(0, 0), 9999);
        Twins.refused("days(60) from 9,940", () -> atDay(9940), y -> y.days(60), -1, 4);
        Twins.refused("days(2) from 9,998", () -> atDay(9998), y -> y.days(2), -1, 4);
        Twins.refused("days(1) from 9,999", () -> atDay(9999), y -> y.days(1), -1, 4);
        Twins.refused("days(60) from 9,999", () -> atDay(9999), y -> y.days(60), -1, 4);
        StainStreet next = atDay(9998);
        Check.due("days(1) from 9,998", next.days(1) >= 0, true);
        Check.due("the last", next.count(5), 9999);
        Check.due("the last DAY is UNDONE", next.undo(), 39);
        Check.due("days(1) again", next.days(1) >= 0, true);
        Check.by("other ACTS go on the last DAY");
        Check.dueAll("ACTS", new int[] {next.sham(0, 1), next.give(1), next.hang(0, 1), next.whiten(0),
            next.piano(0), next.move(0, 1)}, 1, 21, 20, 18, 15, 3);
    }

    private static void howManyDays() {
        Check.by("16: DAYS (1 .. 60); NONE: out of bounds (1)");
        StainStreet x = atDay(0);
        Check.due("days(1)", x.days(1), 0);
        Check.due("the DAY", x.count(5), 1);
        Check.due("days(60)", x.days(60) >= 0, true);
        Check.due("the DAY", x.count(5), 61);
        for (int n : new int[] {0, -1, 61, MIN, MAX}) {
            Twins.refused("days(" + n + ")", () -> atDay(7), y -> y.days(n), -1, 1);
            Twins.refused("days(" + n + ") without a STREET", StainStreet::new, y -> y.days(n), -1, 0);
        }
        Check.by("16: out of bounds ahead of beyond 9,999");
        Twins.refused("days(61) from 9,999", () -> atDay(9999), y -> y.days(61), -1, 1);
        Twins.refused("days(1) without a STREET", StainStreet::new, y -> y.days(1), -1, 0);
        Check.by("16: -2: none");
        Check.due("days(1) in none", Check.street("hp0;hp0;f").days(1), -2);
    }

    private static void mindWhereItIs() {
        Check.by("where the stain is MIND is one less (0 at least)");
        StainStreet x = Check.street("sd9h0;hm2;hm0;f");
        int[] minds = new int[4];
        for (int i = 0; i < 4; i++) {
            minds[i] = x.house(0, 0);
            x.days(1);
        }
        Check.dueAll("MIND", minds, 2, 1, 0, 0);
        Check.due("MIND of nobody else", x.house(1, 0), 0);
    }

    private static void mindElsewhere() {
        Check.by("elsewhere it is one nearer to MIND as told");
        // From below: it goes to 1 on the third DAY, when MIND of 0 is 2.
        StainStreet x = Check.street("sd3h0;hm5p1;hm9p1;f");
        x.days(3);
        Check.due("it went away", x.rule(1), 1);
        x.sham(1, 9);
        int[] minds = new int[6];
        for (int i = 0; i < 6; i++) {
            minds[i] = x.house(0, 0);
            x.days(1);
        }
        Check.due("it stayed away", x.rule(1), 1);
        Check.dueAll("MIND from below", minds, 2, 3, 4, 5, 5, 5);
        // From above: seed 1 draws 4 of 10, 0 of three HOUSES, 6 of 10, and none MOVES.
        StainStreet y = Check.street("sd9;hm4;hm0;hm9;f");
        y.moods(5);
        y.years(1, 1L);
        int[] above = new int[4];
        for (int i = 0; i < 4; i++) {
            above[i] = y.house(0, 0);
            y.days(1);
        }
        Check.dueAll("MIND from above", above, 5, 4, 4, 4);
        Check.dueAll("MIND that is as told", new int[] {y.house(1, 0), y.house(2, 0)}, 0, 9);
    }

    private static void movingDays() {
        Check.by("if the DAY can be divided by how many there are between, it is a MOVING DAY");
        for (int between = 1; between < 10; between++) {
            StainStreet x = Check.street("sd" + between + ";h;h;f");
            Check.due("DAY 0 is none", x.count(10), 0);
            for (int day = 1; day <= 2 * between + 1; day++) {
                x.days(1);
                Check.due("MOVING DAYS of " + between + " up to " + day, x.count(10), day / between);
            }
            Check.due("the latest", x.log(0, 0), between == 1 ? 3 : 2 * between);
        }
        Check.by("MIND is changed ahead of it");
        Check.due("2 against 3", Check.street("sd1h0;hm3;hm3;f").days(1), 1);
    }

    private static void mostMinded() {
        Check.by("to the HOUSE where it is MINDED most (of several the lowest)");
        Check.due("of two alike", Check.street("sd1;hm3;hm3;f").days(1), 0);
        Check.due("the last is most", Check.street("sd1;hm3;hm3;hm4;f").days(1), 2);
        Check.due("the second and the third alike", Check.street("sd1;hm3;hm4;hm4;f").days(1), 1);
        Check.by("to none, if it is 0 everywhere");
        Check.due("1 is enough", Check.street("sd1h0;hm0p1;hm1p1;f").days(1), 1);
        Check.due("0 is not", Check.street("sd1h0;hm1p1;hm0p1;f").days(1), -2);
        StainStreet full = Check.street("sd1h0;hm9p0;hm9;f");
        full.piano(1);
        Check.due("no PEOPLE and a PIANO", full.days(1), -2);
    }

    private static void formsThatFollow() {
        Check.by("is that another place than it was (none counts as a place), its FORM is the one that follows");
        StainStreet stays = Check.street("sd1h0;hm9;hm1;fn1;f");
        Check.dueAll("it stays", new int[] {stays.days(1), stays.rule(2), stays.log(0, 2)}, 0, 0, 0);
        StainStreet goes = Check.street("sd1h0;hm1;hm9;fn1;f");
        Check.dueAll("it goes", new int[] {goes.days(1), goes.rule(2), goes.log(0, 2)}, 1, 1, 1);
        StainStreet toNone = Check.street("sd1h0;hp0;hp0;fn1;f");
        Check.dueAll("to none", new int[] {toNone.days(1), toNone.rule(2), toNone.log(0, 2)}, -2, 1, 1);
        Check.dueAll("from none to none", new int[] {toNone.days(1), toNone.rule(2), toNone.log(0, 2)}, -2, 1, 1);
        StainStreet fromNone = Check.street("sd1;hm1;hp0;fn1;f");
        Check.dueAll("from none", new int[] {fromNone.days(1), fromNone.rule(2), fromNone.log(0, 2)}, 0, 1, 1);
        StainStreet itself = Check.street("sd1h0f1;hm1;hm9;f;fn1");
        Check.dueAll("it follows itself", new int[] {itself.days(1), itself.rule(2)}, 1, 1);
        Check.by("MINDED by the FORM and the place that were");
        StainStreet old = Check.street("sd1h0;hw1;hw2;hw3;ft5n1;ft9");
        Check.law(old, "y:t=5?d;y:t=9&w=1?50;y:1");
        Check.due("by SIZE 5 and how far", old.days(1), 2);
        Check.due("by SIZE 9", old.days(1), 0);
    }

    private static void pianosAway() {
        Check.by("all PIANOS are away then");
        StainStreet x = Check.street("sd2h0c99;h;h;h;h;h;h;h;h;f");
        for (int h = 0; h < 8; h++) {
            x.piano(h);
        }
        Check.due("PIANOS", x.count(9), 255);
        x.days(1);
        Check.due("behind a DAY that is no MOVING DAY", x.count(9), 255);
        Check.due("none minds on the MOVING DAY", x.days(1), -2);
        Check.due("behind it", x.count(9), 0);
        StainStreet stays = Check.street("sd1h0;hm9;hm1;f");
        stays.piano(1);
        Check.dueAll("it stays, and they are away", new int[] {stays.days(1), stays.count(9)}, 0, 0);
    }

    private static StainStreet logged(int movingDays) {
        StainStreet x = Check.street("sd1h0;hm5;hm4;fn1;fn2;f");
        for (int i = 0; i < movingDays; i++) {
            x.days(1);
        }
        return x;
    }

    private static void latestSixty() {
        Check.by("LOG of MOVING DAYS (the latest 60); 21: HIDDEN: no such ones");
        for (int days : new int[] {0, 1, 59, 60, 61, 130}) {
            StainStreet x = logged(days);
            int rows = Math.min(60, days);
            Check.due("how long of " + days, x.count(10), rows);
            for (int i = 0; i < rows; i++) {
                Check.due("log(" + i + ", 0) of " + days, x.log(i, 0), days - i);
            }
            for (int what = 0; what < 3; what++) {
                Check.due("log(" + rows + ", " + what + ") of " + days, x.log(rows, what), HIDDEN);
            }
            Check.dueAll("no such ones of " + days, new int[] {x.log(-1, 0), x.log(0, -1), x.log(0, 3), x.log(60, 0),
                x.log(MAX, 0), x.log(MIN, 0), x.log(0, MAX), x.log(0, MIN)},
                    HIDDEN, HIDDEN, HIDDEN, HIDDEN, HIDDEN, HIDDEN, HIDDEN, HIDDEN);
        }
        Check.due("log(0, 0) without a STREET", new StainStreet().log(0, 0), HIDDEN);
        Check.by("21: the HOUSE (NONE)");
        StainStreet none = Check.street("sd1h0;hp0;hp0;f");
        none.days(1);
        Check.dueAll("log(0) of none", new int[] {none.log(0, 0), none.log(0, 1), none.log(0, 2)}, 1, -1, 0);
    }

    private static void looks() {
        Check.by("6: NONE: no STREET, no such what");
        for (int what : new int[] {-1, 4, MIN, MAX}) {
            Twins.refused("rule(" + what + ")", () -> logged(3), x -> x.rule(what), -1, -1);
        }
        for (int what = 0; what < 4; what++) {
            int of = what;
            Twins.refused("rule(" + of + ") without a STREET", StainStreet::new, x -> x.rule(of), -1, -1);
            Twins.changesNothing("rule(" + of + ")", () -> logged(3), x -> x.rule(of));
        }
        Check.by("7: NoSuchElementException: no such ones");
        for (int[] one : new int[][] {{-1, 0}, {2, 0}, {7, 0}, {8, 0}, {0, -1}, {1, 7}, {MIN, 0}, {MAX, 0}, {0, MIN},
            {0, MAX}}) {
            Twins.refused("house(" + one[0] + ", " + one[1] + ")", () -> logged(3),
                    x -> Twins.house(x, one[0], one[1]), Twins.THROWS, -1);
        }
        for (int what = 0; what < 7; what++) {
            int of = what;
            Twins.refused("house(0, " + of + ") without a STREET", StainStreet::new, x -> Twins.house(x, 0, of),
                    Twins.THROWS, -1);
            Twins.changesNothing("house(1, " + of + ")", () -> logged(3), x -> x.house(1, of));
        }
        Check.by("7: whether a PIANO (1, 0)");
        StainStreet x = Check.street("h;h;h;h;h;h;h;h;f");
        x.piano(7);
        Check.dueAll("PIANOS", Check.ofHouses(x, 5), 0, 0, 0, 0, 0, 0, 0, 1);
        Check.due("house(8, 0) of eight", Twins.house(x, 8, 0), Twins.THROWS);
    }

    private static void formsAndStatus() {
        Check.by("8: NONE: no such ones");
        for (int[] one : new int[][] {{-1, 0}, {3, 0}, {6, 0}, {0, -1}, {2, 2}, {MIN, 1}, {MAX, 1}, {0, MIN},
            {0, MAX}}) {
            Twins.refused("form(" + one[0] + ", " + one[1] + ")", () -> logged(3), x -> x.form(one[0], one[1]), -1, -1);
        }
        Twins.refused("form(0, 0) without a STREET", StainStreet::new, x -> x.form(0, 0), -1, -1);
        Check.dueAll("form(2)", new int[] {logged(0).form(2, 0), logged(0).form(2, 1)}, 3, 0);
        StainStreet six = Check.street("h;h;f;f;f;f;f;ft8n4");
        Check.dueAll("the sixth", new int[] {six.form(5, 0), six.form(5, 1), six.form(6, 0)}, 8, 4, -1);
        Check.by("19: NONE: no such what");
        for (int what : new int[] {-1, 5, MIN, MAX}) {
            Twins.refused("status(" + what + ")", () -> logged(3), x -> x.status(what), -1, -1);
            Check.due("status(" + what + ") without a STREET", new StainStreet().status(what), -1);
        }
        Check.dueAll("at first", Check.statuses(new StainStreet()), 0, 0, 0, 0, 0);
    }

    public static void main(String[] args) {
        mindedByNone();
        letters();
        mindedByNobody();
        lastDay();
        howManyDays();
        mindWhereItIs();
        mindElsewhere();
        movingDays();
        mostMinded();
        formsThatFollow();
        pianosAway();
        latestSixty();
        looks();
        formsAndStatus();
        Check.end("DayEdgesTest");
    }
}
