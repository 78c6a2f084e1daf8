import java.util.NoSuchElementException;
import java.util.Random;

/** Calls with any numbers at all, in any state: nothing is thrown but what house throws, and refusals change nothing. */
public final class WildTest {
    private static final int[] EDGES = {Integer.MIN_VALUE, Integer.MIN_VALUE + 1, -1000000, -10, -9, -2, -1, 0, 1, 2, 3,
        5, 6, 7, 8, 9, 10, 39, 40, 41, 50, 59, 60, 61, 99, 100, 101, 240, 512, 998, 999, 1000, 9999, 1000000,
        Integer.MAX_VALUE - 1, Integer.MAX_VALUE};

    private final Random random;
    private final StainStreet x = new StainStreet();

    private WildTest(long seed) {
        random = new Random(seed);
    }

    private int any() {
        int luck = random.nextInt(10);
        return luck == 0 ? random.nextInt() : luck < 6 ? random.nextInt(10) - 1 : EDGES[random.nextInt(EDGES.length)];
    }

    private int words() {
        String signs = "shfdcmwgptny:?;0123456789()[]!&|=<>+-*/ ";
        int word = 0;
        for (int i = 0; i < 4; i++) {
            int sign = random.nextInt(8) == 0 ? random.nextInt(256) : signs.charAt(random.nextInt(signs.length()));
            word = word << 8 | sign;
        }
        return word;
    }

    private long call(int which) {
        switch (which) {
            case 0: return x.feed(words(), words(), words(), words(), words());
            case 1: return x.end(any()) ? 1 : 0;
            case 2: return x.fault(any());
            case 3: return x.text(any());
            case 4: return x.rule(any());
            case 5: return house(any(), any());
            case 6: return x.form(any(), any());
            case 7: return x.law(any()) ? 1 : 0;
            case 8: return x.sham(any(), any());
            case 9: return x.hang(any(), any());
            case 10: return x.whiten(any());
            case 11: return x.piano(any());
            case 12: return x.move(any(), any());
            case 13: return x.give(any());
            case 14: return x.days(any());
            case 15: return x.moods(any()) ? 1 : 0;
            case 16: return x.years(any(), random.nextLong());
            case 17: return x.status(any());
            case 18: return x.undo();
            case 19: return x.log(any(), any());
            case 20: return x.ahead(any(), any());
            case 21: return x.soonest(any());
            case 22: return x.visits(any());
            case 23: return x.empty(any());
            case 24: return x.goesTo();
            case 25: return x.least(any(), any());
            case 26: return x.rid();
            case 27: return x.white(any());
            case 28: return x.treaties(any(), any());
            case 29: return x.game(any(), any(), any(), any(), any());
            case 30: return x.rests(any(), any(), any());
            case 31: return x.seen(any(), any(), random.nextBoolean());
            case 32: return x.who(any(), any());
            case 33: return x.best(any());
            case 34: return x.follows(any(), any());
            case 35: return x.ring(any());
            case 36: return x.was(any(), any(), random.nextBoolean());
            case 37: return x.forms();
            case 38: return x.odds(any(), any());
            case 39: return x.shares(any(), any());
            case 40: return x.most(any());
            case 41: return x.used(any());
            case 42: return x.near(any());
            case 43: return x.image();
            case 44: return x.back();
            default: return x.count(any());
        }
    }

    private long house(int house, int what) {
        boolean is = house >= 0 && house < x.count(0) && what >= 0 && what <= 6;
        try {
            long answer = x.house(house, what);
            Check.due("house(" + house + ", " + what + ") answers", is, true);
            return answer;
        } catch (NoSuchElementException e) {
            Check.due("house(" + house + ", " + what + ") throws", is, false);
            return 0;
        }
    }

    /** All that can be seen but the tape and the status. */
    private long state() {
        long sum = 0;
        for (int what = 0; what < 12; what++) {
            sum = sum * 31 + (what == 3 ? 0 : x.count(what));
        }
        for (int what = 0; what < 4; what++) {
            sum = sum * 31 + x.rule(what);
        }
        for (int h = 0; h < x.count(0); h++) {
            for (int what = 0; what < 7; what++) {
                sum = sum * 31 + x.house(h, what);
            }
        }
        for (int i = 0; i < x.count(10); i++) {
            sum = sum * 31 + x.log(i, 0) * 100 + x.log(i, 1) * 10 + x.log(i, 2);
        }
        return sum;
    }

    private static boolean changes(int which) {
        return which == 3 || which >= 7 && which <= 16 && which != 17 || which == 18 || which == 31 || which == 36
                || which == 44;
    }

    private static boolean isRefused(int which, long answer) {
        return which == 8 ? answer == -1000000 : which == 7 || which == 15 ? answer == 0 : answer == -1;
    }

    private void run(String street) {
        if (!street.isEmpty()) {
            Check.feed(x, street);
            x.text(0);
            Check.feed(x, "y:m>2|!(w=g&p<3)?[m+t]*2-d;y:d");
            x.text(1);
        }
        for (int i = 0; i < 512; i++) {
            int which = random.nextInt(46);
            long before = state();
            int refusals = x.status(0) + x.status(1) + x.status(2) + x.status(3) + x.status(4);
            long answer = call(which);
            boolean refused = !changes(which) || isRefused(which, answer);
            int more = x.status(0) + x.status(1) + x.status(2) + x.status(3) + x.status(4) - refusals;
            if (refused) {
                Check.due("call " + which + " changes nothing", before == state(), true);
            }
            Check.due("call " + which + " counts in the status", more, which >= 8 && which <= 14 && refused ? 1 : 0);
        }
    }

    public static void main(String[] args) {
        String[] streets = {"", "h;h;f", "sd1h0;hm5;hm4;hm9;fn1;fn2;fn0", "sd2h7c99;h;hp0;hm9;h;hw9;hg9;h;hp9;f;fn1;ft9",
            "sd9;hp0;hp0;f"};
        for (int seed = 0; seed < 300; seed++) {
            new WildTest(seed).run(streets[seed % streets.length]);
        }
        Check.end("WildTest");
    }
}
