import java.math.BigInteger;
import java.util.Arrays;
import java.util.function.Supplier;

/** The edges of MOODS, YEARS and IMAGES (Terms, part 4), and of promises 17, 18 and 45 to 47. */
public final class YearEdgesTest {
    private static final int HIDDEN = -1000000;
    private static final int MAX = Integer.MAX_VALUE;
    private static final int MIN = Integer.MIN_VALUE;
    private static final BigInteger ROUND = BigInteger.ONE.shiftLeft(64);
    private static final long[] SEEDS = {0, 1, -1, 3, 4, 77, 1L << 33, -(1L << 33), Long.MAX_VALUE, Long.MIN_VALUE};

    /** The draws as the document tells them, by numbers that never go round by themselves. */
    private static final class Draws {
        private BigInteger x;

        Draws(long seed) {
            x = BigInteger.valueOf(seed).mod(ROUND);
        }

        int of(int j) {
            x = x.multiply(new BigInteger("6364136223846793005")).add(new BigInteger("1442695040888963407")).mod(ROUND);
            return x.shiftRight(33).mod(BigInteger.valueOf(j)).intValueExact();
        }
    }

    private static StainStreet street(String text, int moods) {
        StainStreet x = Check.street(text);
        x.moods(moods);
        return x;
    }

    private static void moods() {
        Check.by("MOODS (0 .. 9; 0 at first)");
        Check.due("at first", new StainStreet().count(6), 0);
        StainStreet x = Check.street("h;h;f");
        for (int v : new int[] {1, 2, 3, 4, 5, 6, 7, 8, 9, 0}) {
            Check.due("moods(" + v + ")", x.moods(v), true);
            Check.due("count(6)", x.count(6), v);
        }
        Check.due("moods without a STREET", new StainStreet().moods(1), true);
        Check.by("17: False: out of bounds, it is so");
        for (int v : new int[] {-1, 10, MIN, MAX, 5}) {
            Twins.refused("moods(" + v + ")", () -> street("h;h;f", 5), y -> y.moods(v) ? 1 : 0, 0, -1);
        }
        Twins.refused("moods(0) at first", StainStreet::new, y -> y.moods(0) ? 1 : 0, 0, -1);
    }

    private static StainStreet atDay(int day) {
        StainStreet x = street("sd9h0;hm5;hm4;fn1;f", 9);
        for (int i = 0; i < day / 60; i++) {
            x.days(60);
        }
        if (day % 60 > 0) {
            x.days(day % 60);
        }
        return x;
    }

    private static void howManyYears() {
        Check.by("YEARS by a seed: n (1 .. 60) DAYS; 18: the DAY");
        Check.due("years(1, 7)", atDay(0).years(1, 7L), 1);
        Check.due("years(60, 7)", atDay(0).years(60, 7L), 60);
        Check.due("years(60, 7) to the last DAY", atDay(9939).years(60, 7L), 9999);
        Check.due("years(1, 7) to the last DAY", atDay(9998).years(1, 7L), 9999);
        Check.by("18: NONE: no STREET, out of bounds, beyond 9,999; No STATUS");
        for (int n : new int[] {0, -1, 61, MIN, MAX}) {
            Twins.refused("years(" + n + ", 7)", () -> atDay(5), y -> y.years(n, 7L), -1, -1);
        }
        for (int n : new int[] {0, 1, 61}) {
            Twins.refused("years(" + n + ", 7) without a STREET", StainStreet::new, y -> y.years(n, 7L), -1, -1);
        }
        Twins.refused("years(60, 7) from 9,940", () -> atDay(9940), y -> y.years(60, 7L), -1, -1);
        Twins.refused("years(2, 7) from 9,998", () -> atDay(9998), y -> y.years(2, 7L), -1, -1);
        Twins.refused("years(1, 7) from 9,999", () -> atDay(9999), y -> y.years(1, 7L), -1, -1);
    }

    /** MIND and PEOPLE behind one DAY of YEARS that is no MOVING DAY, the stain in none. */
    private static void oneDay(int houses, int moods, long seed) {
        StainStreet x = street("hm5p4;".repeat(houses) + "f", moods);
        int[] minds = new int[houses];
        int[] people = new int[houses];
        Arrays.fill(minds, 5);
        Arrays.fill(people, 4);
        Draws draws = new Draws(seed);
        if (draws.of(10) < moods) {
            int house = draws.of(houses);
            int mind = draws.of(10);
            // The DAY behind it brings it one nearer.
            minds[house] = mind + Integer.signum(5 - mind);
        }
        int from = draws.of(houses);
        int to = draws.of(houses);
        if (from != to) {
            people[from]--;
            people[to]++;
        }
        Check.due("years(1, " + seed + ")", x.years(1, seed), 1);
        Check.dueAll("MIND by MOODS " + moods + ", seed " + seed, Check.ofHouses(x, 0), minds);
        Check.dueAll("PEOPLE by MOODS " + moods + ", seed " + seed, Check.ofHouses(x, 3), people);
    }

    private static void draws() {
        Check.by("x becomes x times .. and .. (64 bits, going round); a draw of j: (x shifted right by 33) modulo j");
        for (long seed : SEEDS) {
            for (int houses = 2; houses <= 8; houses++) {
                oneDay(houses, 0, seed);
                oneDay(houses, 5, seed);
                oneDay(houses, 9, seed);
            }
        }
        Check.by("a draw of 10 below MOODS");
        for (int first = 0; first < 10; first++) {
            long seed = seedFor(first);
            for (int moods = 0; moods < 10; moods++) {
                oneDay(3, moods, seed);
            }
        }
        Check.by("x goes on from DAY to DAY, and is the seed again for each YEARS");
        for (long seed : SEEDS) {
            moreDays(seed);
        }
    }

    /** A seed whose first draw of 10 is this, and whose draws behind it leave MIND 5 of three HOUSES. */
    private static long seedFor(int first) {
        for (long seed = 0; seed < 10000; seed++) {
            Draws draws = new Draws(seed);
            if (draws.of(10) == first) {
                draws.of(3);
                int mind = draws.of(10);
                if (mind < 4 || mind > 6) {
                    return seed;
                }
            }
        }
        throw new IllegalStateException("no such seed");
    }

    private static void moreDays(long seed) {
        StainStreet x = street("sd9;hm5p4;hm5p4;hm5p4;f", 0);
        int[] people = {4, 4, 4};
        for (int call = 0; call < 2; call++) {
            Draws draws = new Draws(seed);
            for (int i = 0; i < 4; i++) {
                draws.of(10);
                int from = draws.of(3);
                int to = draws.of(3);
                if (from != to && people[from] > 0 && people[to] < 9) {
                    people[from]--;
                    people[to]++;
                }
            }
            Check.due("years(4, " + seed + ")", x.years(4, seed), 4 * call + 4);
            Check.dueAll("PEOPLE by seed " + seed, Check.ofHouses(x, 3), people);
        }
    }

    private static long seedMoving(int from, int to) {
        for (long seed = 0; seed < 10000; seed++) {
            Draws draws = new Draws(seed);
            draws.of(10);
            if (draws.of(2) == from && draws.of(2) == to) {
                return seed;
            }
        }
        throw new IllegalStateException("no such seed");
    }

    private static void moves(String street, int from, int to, int... people) {
        StainStreet x = Check.street(street);
        x.years(1, seedMoving(from, to));
        Check.dueAll("from " + from + " to " + to + " of " + street, Check.ofHouses(x, 3), people);
        Check.dueAll("STATUS", Check.statuses(x), 0, 0, 0, 0, 0);
    }

    private static void whoMoves() {
        Check.by("one of the PEOPLE MOVES, if they are unlike, there are some and fewer than nine there; No STATUS");
        moves("hp1;hp8;f", 0, 1, 0, 9);
        moves("hp1;hp9;f", 0, 1, 1, 9);
        moves("hp0;hp8;f", 0, 1, 0, 8);
        moves("hp0;hp9;f", 0, 1, 0, 9);
        moves("hp0;hp9;f", 1, 0, 1, 8);
        moves("hp9;hp0;f", 0, 0, 9, 0);
        moves("hp9;hp0;f", 1, 1, 9, 0);
        moves("hp4;hp4;f", 1, 1, 4, 4);
    }

    private static void oneActEach() {
        Check.by("Each DAY with what is ahead of it is one ACT");
        StainStreet x = street("sd1h0;hm5p4;hm4p4;hm3p4;fn1;f", 9);
        x.years(3, 77L);
        Check.due("three", x.count(11), 3);
        StainStreet two = street("sd1h0;hm5p4;hm4p4;hm3p4;fn1;f", 9);
        two.years(2, 77L);
        Check.due("undo()", x.undo(), 2);
        for (int what = 0; what < 7; what++) {
            Check.dueAll("as behind two, " + what, Check.ofHouses(x, what), Check.ofHouses(two, what));
        }
        Check.dueAll("as behind two", new int[] {x.count(5), x.count(10), x.rule(1), x.rule(2)}, two.count(5),
                two.count(10), two.rule(1), two.rule(2));
        x.undo();
        Check.due("undo()", x.undo(), 0);
        Check.dueAll("MIND at first", Check.ofHouses(x, 0), 5, 4, 3);
        Check.dueAll("PEOPLE at first", Check.ofHouses(x, 3), 4, 4, 4);
        Check.due("undo() of none", x.undo(), -1);
        Check.due("years(60, 77)", x.years(60, 77L), 60);
        Check.due("forty at most", x.count(11), 40);
    }

    private static StainStreet pictured() {
        StainStreet x = Check.street("sd2h0c50;hm5w2g1p4;hm4;hm3p3;fn1;fn2;ft7n0");
        x.moods(4);
        x.days(5);
        x.sham(1, 3);
        x.hang(0, 4);
        x.whiten(2);
        x.piano(2);
        x.move(0, 1);
        x.image();
        return x;
    }

    private static int[] kept(StainStreet x) {
        int[] all = new int[3 * 7 + 6 + 3 * 3];
        int at = 0;
        for (int what = 0; what < 7; what++) {
            for (int h = 0; h < 3; h++) {
                all[at++] = x.house(h, what);
            }
        }
        for (int value : new int[] {x.rule(1), x.rule(2), x.rule(3), x.count(5), x.count(9), x.count(10)}) {
            all[at++] = value;
        }
        for (int i = 0; i < 3; i++) {
            for (int what = 0; what < 3; what++) {
                all[at++] = x.log(i, what);
            }
        }
        return all;
    }

    private static void changed(StainStreet x) {
        x.sham(0, -9);
        x.sham(1, -9);
        x.hang(0, 9);
        x.whiten(0);
        x.piano(0);
        x.move(2, 0);
        x.give(50);
        x.years(9, 12L);
    }

    private static void imageKeeps() {
        Check.by("An IMAGE keeps MINDS, SHAMS, WHITE, HANGINGS, PEOPLE, PIANOS, COINS, where it is, .. ; BACK");
        StainStreet x = pictured();
        int[] before = kept(x);
        changed(x);
        Check.due("it is another", Arrays.equals(before, kept(x)), false);
        Check.due("back()", x.back(), 5);
        Check.dueAll("they are so again", kept(x), before);
        Check.by("BACK: no ACT can be UNDONE then");
        Check.dueAll("ACTS", new int[] {x.count(11), x.undo()}, 0, -1);
        Check.dueAll("they are so still", kept(x), before);
        Check.by("46: the IMAGE is there still");
        changed(x);
        Check.due("back() again", x.back(), 5);
        Check.dueAll("they are so again", kept(x), before);
        Check.due("back() at once", x.back(), 5);
        Check.by("45: An IMAGE (instead of the one ahead): the DAY");
        x.days(3);
        Check.due("image()", x.image(), 8);
        int[] later = kept(x);
        changed(x);
        Check.due("back()", x.back(), 8);
        Check.dueAll("they are so again", kept(x), later);
        Check.due("image() at DAY 0", Check.street("h;h;f").image(), 0);
    }

    private static void imageOfAFullLog() {
        Check.by("An IMAGE keeps the LOG (the latest 60)");
        StainStreet x = Check.street("sd1h0;hm5;hm5;fn1;fn2;f");
        x.days(60);
        x.days(1);
        x.image();
        int[] rows = new int[180];
        for (int i = 0; i < 180; i++) {
            rows[i] = x.log(i / 3, i % 3);
        }
        x.move(1, 0);
        x.move(1, 0);
        x.days(60);
        x.days(60);
        x.days(60);
        Check.due("back()", x.back(), 61);
        for (int i = 0; i < 180; i++) {
            Check.due("log(" + i / 3 + ", " + i % 3 + ")", x.log(i / 3, i % 3), rows[i]);
        }
        Check.dueAll("how long, none older", new int[] {x.count(10), x.log(60, 0)}, 60, HIDDEN);
    }

    private static void imageLeaves() {
        Check.by("BACK: what an IMAGE does not keep is as it is");
        StainStreet x = pictured();
        Check.law(x, "y:7");
        x.moods(8);
        x.seen(1, 0, true);
        x.was(0, 0, true);
        x.sham(9, 9);
        Check.feed(x, "abc");
        x.back();
        Check.dueAll("LAWS, the TAPE, which holds, MOODS, SEEN, WAS, STATUS", new int[] {x.count(2), x.count(3),
            x.count(4), x.count(6), x.count(7), x.count(8), x.status(0)}, 1, 3, 0, 8, 1, 1, 1);
        Check.due("ACTS go on from there", x.days(1) >= 0, true);
        Check.due("and can be UNDONE", x.undo(), 0);
    }

    private static void noImage() {
        Check.by("45: NONE: no STREET");
        Twins.refused("image() without a STREET", StainStreet::new, y -> y.image(), -1, -1);
        Twins.changesNothing("image() again", YearEdgesTest::pictured, y -> y.image());
        Check.by("46: NONE: no IMAGE of this STREET");
        Twins.refused("back() without a STREET", StainStreet::new, y -> y.back(), -1, -1);
        Twins.refused("back() without an IMAGE", () -> atDay(7), y -> y.back(), -1, -1);
        Supplier<StainStreet> other = () -> {
            StainStreet x = pictured();
            Check.feed(x, "sd1h0;hm5;hm4;f");
            x.text(0);
            x.days(2);
            return x;
        };
        Twins.refused("back() with an IMAGE of another STREET", other, y -> y.back(), -1, -1);
        StainStreet x = pictured();
        Check.feed(x, "h;f");
        x.text(0);
        Check.due("back() behind a text that was refused", x.back(), 5);
    }

    private static void counts() {
        Check.by("47: HIDDEN for others");
        for (int what : new int[] {-1, 12, MIN, MAX}) {
            Twins.refused("count(" + what + ")", YearEdgesTest::pictured, y -> y.count(what), HIDDEN, -1);
            Check.due("count(" + what + ") without a STREET", new StainStreet().count(what), HIDDEN);
        }
        Check.by("47: empty");
        int[] none = new int[12];
        StainStreet x = new StainStreet();
        for (int what = 0; what < 12; what++) {
            none[what] = x.count(what);
        }
        Check.dueAll("count of a new object", none, 0, 0, 0, 0, -1, 0, 0, 0, 0, 0, 0, 0);
        Check.by("47: full");
        Check.dueAll("count of a full one", full(), 8, 6, 4, 240, 3, 9999, 9, 10, 10, 255, 60, 40);
    }

    private static int[] full() {
        StainStreet x = street("sd1h0c99;h;h;h;h;h;h;h;h;f;f;f;f;f;f", 9);
        for (int i = 0; i < 4; i++) {
            Check.law(x, "y:m+" + i);
        }
        for (int i = 0; i < 10; i++) {
            x.seen(1, 0, false);
            x.was(0, 0, false);
        }
        for (int i = 0; i < 166; i++) {
            x.days(60);
        }
        x.days(39);
        for (int h = 0; h < 8; h++) {
            x.piano(h);
        }
        for (int i = 0; i < 12; i++) {
            x.feed(-1, -1, -1, -1, -1);
        }
        int[] all = new int[12];
        for (int what = 0; what < 12; what++) {
            all[what] = x.count(what);
        }
        return all;
    }

    public static void main(String[] args) {
        moods();
        howManyYears();
        draws();
        whoMoves();
        oneActEach();
        imageKeeps();
        imageOfAFullLog();
        imageLeaves();
        noImage();
        counts();
        Check.end("YearEdgesTest");
    }
}
