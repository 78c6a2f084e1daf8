import java.util.function.Supplier;

/** The edges of ACTS by hand, of STATUS and of undoing (Terms, part 2), and of promises 10 to 15 and 20. */
public final class ActEdgesTest {
    private static final int HIDDEN = -1000000;
    private static final int MAX = Integer.MAX_VALUE;
    private static final int MIN = Integer.MIN_VALUE;
    private static final int[] NO_HOUSES = {-1, 3, 7, 8, MIN, MAX};

    /** Three HOUSES with acts, a log, an image and notes behind them. */
    private static StainStreet busy(int coins) {
        StainStreet x = Check.street("sd2h0c" + coins + ";hm5w8g4p9;hm4w9g9p0;hm3w0g0p8;fn1;fn2;ft7n0");
        x.days(5);
        x.image();
        x.sham(1, 4);
        x.days(1);
        x.seen(2, 1, true);
        x.was(1, 1, true);
        return x;
    }

    private static Supplier<StainStreet> with(int coins) {
        return () -> busy(coins);
    }

    private static StainStreet withPiano() {
        StainStreet x = busy(5);
        x.piano(1);
        return x;
    }

    private static void shamming() {
        Check.by("a HOUSE SHAMS (SHAM -9 .. 9; 0 at first)");
        StainStreet x = Check.street("h;h;h;f");
        Check.dueAll("at first", Check.ofHouses(x, 4), 0, 0, 0);
        for (int v = -9; v <= 9; v++) {
            Check.due("sham(0, " + v + ")", x.sham(0, v), v);
            Check.due("SHAM", x.house(0, 4), v);
        }
        Check.dueAll("others are as they were", new int[] {x.house(1, 4), x.house(2, 4), x.rule(3)}, 0, 0, 20);
        Check.by("10: HIDDEN: no such HOUSE (STATUS 0)");
        for (int house : NO_HOUSES) {
            Twins.refused("sham(" + house + ", 1)", with(20), y -> y.sham(house, 1), HIDDEN, 0);
        }
        Twins.refused("sham(0, 1) without a STREET", StainStreet::new, y -> y.sham(0, 1), HIDDEN, 0);
        Check.by("10: out of bounds (1)");
        for (int v : new int[] {-10, 10, MIN, MAX}) {
            Twins.refused("sham(0, " + v + ")", with(20), y -> y.sham(0, v), HIDDEN, 1);
        }
        Check.by("10: it is so (2)");
        Twins.refused("sham(0, 0)", with(20), y -> y.sham(0, 0), HIDDEN, 2);
        Twins.refused("sham(1, 4)", with(20), y -> y.sham(1, 4), HIDDEN, 2);
        Check.by("10: of several the first");
        Twins.refused("sham(3, 10)", with(20), y -> y.sham(3, 10), HIDDEN, 0);
    }

    private static void hanging() {
        Check.by("HANGINGS are set (0 .. 9; a COIN each more; less cost nothing)");
        for (int v = 0; v < 10; v++) {
            StainStreet x = busy(20);
            if (v != 4) {
                Check.due("hang(0, " + v + ") from 4", x.hang(0, v), v < 4 ? 20 : 24 - v);
                Check.due("HANGINGS", x.house(0, 2), v);
                Check.due("COINS", x.rule(3), v < 4 ? 20 : 24 - v);
            }
        }
        Check.by("11: no such HOUSE (STATUS 0)");
        for (int house : NO_HOUSES) {
            Twins.refused("hang(" + house + ", 1)", with(20), y -> y.hang(house, 1), -1, 0);
        }
        Twins.refused("hang(0, 1) without a STREET", StainStreet::new, y -> y.hang(0, 1), -1, 0);
        Check.by("11: out of bounds (1)");
        for (int v : new int[] {-1, 10, MIN, MAX}) {
            Twins.refused("hang(0, " + v + ")", with(20), y -> y.hang(0, v), -1, 1);
            Twins.refused("hang(0, " + v + ") without COINS", with(0), y -> y.hang(0, v), -1, 1);
        }
        Check.by("11: it is so (2)");
        Twins.refused("hang(2, 0)", with(20), y -> y.hang(2, 0), -1, 2);
        Twins.refused("hang(0, 4)", with(0), y -> y.hang(0, 4), -1, 2);
        Twins.refused("hang(1, 9)", with(0), y -> y.hang(1, 9), -1, 2);
        Check.by("11: too few (3)");
        Twins.refused("hang(2, 9) with 8", with(8), y -> y.hang(2, 9), -1, 3);
        Twins.refused("hang(0, 9) with 4", with(4), y -> y.hang(0, 9), -1, 3);
        Twins.refused("hang(0, 5) with none", with(0), y -> y.hang(0, 5), -1, 3);
        Check.due("hang(2, 9) with 9", busy(9).hang(2, 9), 0);
        Check.due("hang(0, 9) with 5", busy(5).hang(0, 9), 0);
        Check.due("hang(1, 0) with none", busy(0).hang(1, 0), 0);
    }

    private static void whitening() {
        Check.by("a wall is WHITENED (one more, 9 at most; 2 COINS)");
        StainStreet x = busy(20);
        for (int white = 1; white <= 9; white++) {
            Check.due("whiten(2)", x.whiten(2), 20 - 2 * white);
            Check.due("WHITE", x.house(2, 1), white);
        }
        Check.due("to nine", busy(20).whiten(0), 18);
        Check.by("12: no such HOUSE (STATUS 0)");
        for (int house : NO_HOUSES) {
            Twins.refused("whiten(" + house + ")", with(20), y -> y.whiten(house), -1, 0);
        }
        Twins.refused("whiten(0) without a STREET", StainStreet::new, y -> y.whiten(0), -1, 0);
        Check.by("12: nine (2)");
        Twins.refused("whiten(1)", with(20), y -> y.whiten(1), -1, 2);
        Check.by("12: of several the first: nine, too few");
        Twins.refused("whiten(1) with none", with(0), y -> y.whiten(1), -1, 2);
        Twins.refused("whiten(3) with none", with(0), y -> y.whiten(3), -1, 0);
        Check.by("12: too few (3)");
        Twins.refused("whiten(0) with 1", with(1), y -> y.whiten(0), -1, 3);
        Twins.refused("whiten(0) with none", with(0), y -> y.whiten(0), -1, 3);
        Check.due("whiten(0) with 2", busy(2).whiten(0), 0);
        Check.due("whiten(0) with 3", busy(3).whiten(0), 1);
    }

    private static void pianos() {
        Check.by("a PIANO is set (3 COINS)");
        StainStreet x = busy(9);
        Check.dueAll("piano", new int[] {x.piano(0), x.piano(2), x.piano(1)}, 6, 3, 0);
        Check.due("PIANOS", x.count(9), 7);
        Check.by("13: no such HOUSE (STATUS 0)");
        for (int house : NO_HOUSES) {
            Twins.refused("piano(" + house + ")", with(20), y -> y.piano(house), -1, 0);
        }
        Twins.refused("piano(0) without a STREET", StainStreet::new, y -> y.piano(0), -1, 0);
        Check.by("13: it is there (2), ahead of too few");
        Twins.refused("piano(1) again, with 2", ActEdgesTest::withPiano, y -> y.piano(1), -1, 2);
        Check.by("13: too few (3)");
        Twins.refused("piano(0) with 2", with(2), y -> y.piano(0), -1, 3);
        Twins.refused("piano(0) with 2 and another PIANO", ActEdgesTest::withPiano, y -> y.piano(0), -1, 3);
        Twins.refused("piano(0) with none", with(0), y -> y.piano(0), -1, 3);
        Twins.refused("piano(3) with none", with(0), y -> y.piano(3), -1, 0);
        Check.due("piano(0) with 3", busy(3).piano(0), 0);
        Check.due("piano(0) with 4", busy(4).piano(0), 1);
        Check.by("it can be set again behind a MOVING DAY");
        StainStreet again = withPiano();
        again.give(1);
        again.days(2);
        Check.due("piano(1)", again.piano(1), 0);
    }

    private static void moving() {
        Check.by("one of the PEOPLE MOVES to another HOUSE (9 at most there)");
        StainStreet x = busy(20);
        Check.due("from 9, to 8", x.move(0, 2), 9);
        Check.dueAll("PEOPLE", Check.ofHouses(x, 3), 8, 0, 9);
        Check.due("to none", x.move(2, 1), 1);
        Check.due("the last one", x.move(1, 0), 9);
        Check.dueAll("PEOPLE", Check.ofHouses(x, 3), 9, 0, 8);
        Check.by("14: no such HOUSES (STATUS 0)");
        for (int house : NO_HOUSES) {
            Twins.refused("move(" + house + ", 1)", with(20), y -> y.move(house, 1), -1, 0);
            Twins.refused("move(0, " + house + ")", with(20), y -> y.move(0, house), -1, 0);
            Twins.refused("move(" + house + ", " + house + ")", with(20), y -> y.move(house, house), -1, 0);
        }
        Twins.refused("move(0, 1) without a STREET", StainStreet::new, y -> y.move(0, 1), -1, 0);
        Check.by("14: alike (1), ahead of nine there and none to move");
        Twins.refused("move(2, 2)", with(20), y -> y.move(2, 2), -1, 1);
        Twins.refused("move(0, 0) of nine", with(20), y -> y.move(0, 0), -1, 1);
        Twins.refused("move(1, 1) of none", with(20), y -> y.move(1, 1), -1, 1);
        Check.by("14: nine there (2), ahead of none to move");
        Twins.refused("move(2, 0)", with(20), y -> y.move(2, 0), -1, 2);
        Twins.refused("move(1, 0)", with(20), y -> y.move(1, 0), -1, 2);
        Check.by("14: none to move (3)");
        Twins.refused("move(1, 2)", with(20), y -> y.move(1, 2), -1, 3);
    }

    private static StainStreet withCoins(int coins) {
        StainStreet x = busy(coins % 50);
        for (int i = 0; i < coins / 50; i++) {
            x.give(50);
        }
        Check.due("COINS", x.rule(3), coins);
        return x;
    }

    private static void giving() {
        Check.by("COINS are given (1 .. 50; 999 at most)");
        for (int n = 1; n <= 50; n++) {
            Check.due("give(" + n + ")", withCoins(0).give(n), n);
        }
        Check.due("give(1) to 998", withCoins(998).give(1), 999);
        Check.due("give(50) to 949", withCoins(949).give(50), 999);
        Check.by("15: no STREET (STATUS 0)");
        for (int n : new int[] {1, 0, 51, MIN, MAX}) {
            Twins.refused("give(" + n + ") without a STREET", StainStreet::new, y -> y.give(n), -1, 0);
        }
        Check.by("15: out of bounds (1)");
        for (int n : new int[] {0, -1, 51, MIN, MAX}) {
            Twins.refused("give(" + n + ")", with(20), y -> y.give(n), -1, 1);
        }
        Check.by("15: above 999 (1)");
        Twins.refused("give(1) to 999", () -> withCoins(999), y -> y.give(1), -1, 1);
        Twins.refused("give(2) to 998", () -> withCoins(998), y -> y.give(2), -1, 1);
        Twins.refused("give(50) to 950", () -> withCoins(950), y -> y.give(50), -1, 1);
        Twins.refused("give(51) to 999", () -> withCoins(999), y -> y.give(51), -1, 1);
        Check.due("what is spent can be given again", spentAndGiven(), 999);
    }

    private static int spentAndGiven() {
        StainStreet x = withCoins(999);
        x.piano(0);
        return x.give(3);
    }

    private static void statusesAddUp() {
        Check.by("STATUS: how many ACTS were refused; not UNDONE");
        StainStreet x = busy(1);
        for (int i = 0; i < 5; i++) {
            x.sham(3, 0);
            x.hang(0, 10);
            x.hang(0, 4);
            x.whiten(0);
        }
        x.days(0);
        x.move(1, 2);
        x.piano(0);
        Check.dueAll("STATUS", Check.statuses(x), 5, 6, 5, 7, 0);
        x.sham(2, 2);
        x.undo();
        x.undo();
        Check.dueAll("STATUS is not UNDONE", Check.statuses(x), 5, 6, 5, 7, 0);
        x.back();
        Check.dueAll("STATUS is not of the IMAGE", Check.statuses(x), 5, 6, 5, 7, 0);
        Check.by("STATUS: of ACTS alone");
        x.law(9);
        x.moods(10);
        x.years(0, 0);
        x.seen(0, 0, true);
        x.was(0, 9, true);
        x.text(0);
        x.end(-1);
        x.odds(9, 0);
        Check.dueAll("STATUS of what is no ACT", Check.statuses(x), 5, 6, 5, 7, 0);
    }

    private static void undoingEach() {
        Check.by("All these are ACTS: they can be UNDONE one by one");
        StainStreet x = Check.street("sd1h0c30;hm5w1g1p3;hm4;fn1;ft9n0");
        Check.due("undo() of none", x.undo(), -1);
        Check.dueAll("ACTS", new int[] {x.sham(1, 3), x.hang(0, 5), x.whiten(1), x.piano(0), x.move(0, 1), x.give(7),
            x.days(2)}, 3, 26, 24, 21, 3, 28, 1);
        Check.due("how many", x.count(11), 8);
        int[][] due = {
            {7, 1, 1, 28, 1, 5, 2, 3, 0, 1}, {6, 0, 0, 28, 0, 5, 2, 3, 1, 0}, {5, 0, 0, 21, 0, 5, 2, 3, 1, 0},
            {4, 0, 0, 21, 0, 5, 3, 2, 1, 0}, {3, 0, 0, 24, 0, 5, 3, 2, 0, 0}, {2, 0, 0, 26, 0, 5, 3, 2, 0, 0},
            {1, 0, 0, 30, 0, 1, 3, 2, 0, 0}, {0, 0, 0, 30, 0, 1, 3, 2, 0, 0},
        };
        for (int[] row : due) {
            Check.dueAll("undo to " + row[0], new int[] {x.undo(), x.rule(1), x.rule(2), x.rule(3), x.count(5),
                x.house(0, 2), x.house(0, 3), x.house(1, 3), x.count(9), x.count(10)}, row);
        }
        Check.dueAll("SHAM, WHITE", new int[] {x.house(1, 4), x.house(1, 1)}, 0, 0);
        Check.by("20: NONE: none");
        Check.due("undo()", x.undo(), -1);
        Twins.refused("undo() of none", () -> Check.street("h;h;f"), y -> y.undo(), -1, -1);
        Twins.refused("undo() without a STREET", StainStreet::new, y -> y.undo(), -1, -1);
    }

    private static StainStreet acted(int acts) {
        StainStreet x = Check.street("h;h;f");
        for (int i = 1; i <= acts; i++) {
            x.give(1);
        }
        return x;
    }

    private static void latestForty() {
        Check.by("the latest 40 can be UNDONE");
        for (int acts : new int[] {0, 1, 39, 40, 41, 79, 80, 81, 120}) {
            StainStreet x = acted(acts);
            int can = Math.min(40, acts);
            Check.due("of " + acts, x.count(11), can);
            for (int left = can - 1; left >= 0; left--) {
                Check.due("undo() of " + acts, x.undo(), left);
                Check.due("COINS", x.rule(3), 20 + acts - can + left);
            }
            Check.due("one more of " + acts, x.undo(), -1);
            Check.due("COINS", x.rule(3), 20 + acts - can);
            Check.due("count(11)", x.count(11), 0);
        }
        Check.by("UNDONE and done again");
        StainStreet x = acted(50);
        for (int i = 0; i < 30; i++) {
            x.undo();
        }
        Check.due("left", x.count(11), 10);
        for (int i = 0; i < 35; i++) {
            x.give(2);
        }
        Check.due("40 at most", x.count(11), 40);
        for (int i = 0; i < 40; i++) {
            x.undo();
        }
        Check.dueAll("back to the fifteenth", new int[] {x.rule(3), x.undo()}, 35, -1);
    }

    private static void eachDay() {
        Check.by("All these (each DAY) are ACTS (LOG, too)");
        StainStreet x = Check.street("sd1h0;hm5;hm4;fn1;fn2;f");
        x.days(3);
        Check.due("three", x.count(11), 3);
        x.days(37);
        Check.due("forty", x.count(11), 40);
        x.days(60);
        Check.due("forty of a hundred", x.count(11), 40);
        for (int i = 0; i < 40; i++) {
            x.undo();
        }
        Check.dueAll("the sixtieth DAY", new int[] {x.count(5), x.count(10), x.log(0, 0), x.log(59, 0), x.undo()},
                60, 60, 60, 1, -1);
        StainStreet few = Check.street("sd3h0;hm5;hm4;f");
        few.days(4);
        few.undo();
        Check.due("the LOG ahead of the fourth DAY", few.count(10), 1);
        few.undo();
        Check.due("the LOG ahead of the third DAY", few.count(10), 0);
        Check.due("log(0, 0)", few.log(0, 0), HIDDEN);
    }

    private static void noActs() {
        Check.by("what is no ACT can not be UNDONE");
        StainStreet x = Check.street("sd1h0;hm5;hm4;fn1;fn2;f");
        x.sham(0, 1);
        Check.law(x, "y:m");
        x.moods(3);
        x.seen(1, 1, true);
        x.was(1, 1, true);
        x.image();
        Check.feed(x, "abc");
        x.end(2);
        Check.due("ACTS", x.count(11), 1);
        Check.due("undo()", x.undo(), 0);
        Check.dueAll("SHAM alone is UNDONE", new int[] {x.house(0, 4), x.count(2), x.count(3), x.count(4), x.count(6),
            x.count(7), x.count(8), x.back(), x.house(0, 4)}, 0, 1, 2, 0, 3, 1, 1, 0, 1);
    }

    public static void main(String[] args) {
        shamming();
        hanging();
        whitening();
        pianos();
        moving();
        giving();
        statusesAddUp();
        undoingEach();
        latestForty();
        eachDay();
        noActs();
        Check.end("ActEdgesTest");
    }
}
