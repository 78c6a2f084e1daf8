import java.util.ArrayList;
import java.util.List;
import java.util.NoSuchElementException;
import java.util.function.Supplier;
import java.util.function.ToLongFunction;

/** Two objects made alike, of which one has a call refused: all that can be asked of both behind it is the same. */
final class Twins {
    static final int NO_STATUS = -1;
    static final long THROWS = Long.MIN_VALUE;

    private Twins() {
    }

    /** A call that is refused with this answer, and counts as this STATUS or as none. */
    static void refused(String call, Supplier<StainStreet> made, ToLongFunction<StainStreet> calling, long answer,
            int status) {
        StainStreet asked = made.get();
        int[] due = Check.statuses(asked);
        if (status != NO_STATUS) {
            due[status]++;
        }
        Check.due(call, calling.applyAsLong(asked), answer);
        Check.dueAll("STATUS behind " + call, Check.statuses(asked), due);
        same("behind " + call, all(asked), all(made.get()));
    }

    /** A call that answers, and changes nothing at all. */
    static void changesNothing(String call, Supplier<StainStreet> made, ToLongFunction<StainStreet> calling) {
        StainStreet asked = made.get();
        StainStreet other = made.get();
        long answer = calling.applyAsLong(asked);
        Check.due(call + " again", calling.applyAsLong(asked), answer);
        Check.dueAll("STATUS behind " + call, Check.statuses(asked), Check.statuses(other));
        same("behind " + call, all(asked), all(other));
    }

    private static void same(String when, List<String> got, List<String> want) {
        Check.due("how much can be asked " + when, got.size(), want.size());
        for (int i = 0; i < Math.min(got.size(), want.size()); i++) {
            if (!got.get(i).equals(want.get(i))) {
                Check.due(when + ": " + got.get(i) + " against " + want.get(i), false, true);
                return;
            }
        }
        Check.due(when + ": all is as it was", true, true);
    }

    static long house(StainStreet x, int house, int what) {
        try {
            return x.house(house, what);
        } catch (NoSuchElementException e) {
            return THROWS;
        }
    }

    /** All that can be asked but STATUS, with what only later calls show: acts undone, the image, the tape. */
    private static List<String> all(StainStreet x) {
        List<String> all = new ArrayList<>();
        now(x, all);
        apart(x, all);
        for (int i = 0; i < 41; i++) {
            all.add("undo " + x.undo() + " " + x.count(5) + " " + x.rule(3) + " " + x.goesTo());
        }
        now(x, all);
        all.add("back " + x.back());
        now(x, all);
        texts(x, all);
        now(x, all);
        return all;
    }

    private static void now(StainStreet x, List<String> all) {
        for (int what = 0; what < 12; what++) {
            all.add("count(" + what + ") " + x.count(what));
        }
        for (int what = 0; what < 4; what++) {
            all.add("rule(" + what + ") " + x.rule(what));
        }
        for (int what = 0; what < 7; what++) {
            for (int h = 0; h < x.count(0); h++) {
                all.add("house(" + h + ", " + what + ") " + x.house(h, what));
            }
        }
        for (int f = 0; f < x.count(1); f++) {
            all.add("form(" + f + ") " + x.form(f, 0) + " " + x.form(f, 1));
        }
        for (int i = 0; i < x.count(10); i++) {
            all.add("log(" + i + ") " + x.log(i, 0) + " " + x.log(i, 1) + " " + x.log(i, 2));
        }
    }

    private static void apart(StainStreet x, List<String> all) {
        for (int what = 0; what < 6; what++) {
            all.add("most(" + what + ") " + x.most(what));
        }
        for (int n = 0; n < 9; n++) {
            all.add("ahead(" + n + ") " + x.ahead(n, 0) + " " + x.ahead(n, 1));
        }
        all.add("forms " + x.forms());
        for (int g = 1; g < 6; g++) {
            all.add("best(" + g + ") " + x.best(g));
            for (int i = -1; i < x.count(0) + 1; i++) {
                all.add("who(" + g + ", " + i + ") " + x.who(g, i));
            }
        }
    }

    private static void texts(StainStreet x, List<String> all) {
        for (int length = x.count(3); length > 0; length--) {
            x.end(length);
            all.add("faults of " + length + " bytes " + x.fault(0) + " " + x.fault(1));
        }
        x.end(0);
        for (int law = 0; law < x.count(2) && x.count(0) > 0; law++) {
            x.law(law);
            all.add("MINDED by law " + law + " " + x.house(0, 6) + " " + x.house(1, 6));
        }
        x.law(-1);
        Check.feed(x, "y:w*9+1");
        all.add("text(1) " + x.text(1));
        Check.feed(x, "sc5;hm7;hm2;ft2");
        all.add("text(0) " + x.text(0));
    }
}
