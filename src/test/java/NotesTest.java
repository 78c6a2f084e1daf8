/** Promises 33 to 39: who minded more, which day to look at, what form it was. */
public final class NotesTest {
    private static final int MAX = Integer.MAX_VALUE;
    private static final int MIN = Integer.MIN_VALUE;
    private static final String TO_AND_FRO = "sd2h0;hm4;hm3;hm0p0;fn1;fn2;fn0";

    private static int[] all(StainStreet x, int g) {
        int[] all = new int[Math.max(0, x.who(g, -1))];
        for (int i = 0; i < all.length; i++) {
            all[i] = x.who(g, i);
        }
        return all;
    }

    private static void seen() {
        StainStreet x = Check.street(TO_AND_FRO);
        Check.dueAll("refused", new int[] {x.seen(0, 0, true), x.seen(41, 0, true), x.seen(1, 3, true),
            x.seen(1, -1, true), x.seen(MAX, 0, false), x.seen(1, MIN, false)}, -1, -1, -1, -1, -1, -1);
        for (int i = 1; i <= 10; i++) {
            Check.due("seen", x.seen(i == 1 ? 1 : 40, 2, false), i);
        }
        Check.due("there are ten", x.seen(1, 0, true), -1);
        Check.due("count(7)", x.count(7), 10);
        Check.due("who", x.who(1, -1), 4);
        Check.due("no act", x.count(11), 0);
        Check.due("without a street", new StainStreet().seen(1, 0, true), -1);
    }

    private static void who() {
        StainStreet x = Check.street(TO_AND_FRO);
        Check.dueAll("who with nothing seen", all(x, 1), 0, 1, 2, 9);
        Check.dueAll("no such ones", new int[] {x.who(1, 4), x.who(1, -2), x.who(1, MAX), x.who(1, MIN),
            x.who(0, -1), x.who(6, -1), x.who(MAX, -1)}, -1, -1, -1, -1, -1, -1, -1);
        x.seen(2, 1, true);
        Check.dueAll("who", all(x, 1), 1, 2, 9);
        // Minding 5 more house 1 keeps it behind four days, too.
        x.seen(4, 1, false);
        Check.dueAll("who by 1", all(x, 1), 1, 2, 9);
        Check.dueAll("who by 5", all(x, 5), 2, 9);
        x.seen(4, 0, false);
        Check.dueAll("who by 1", all(x, 1));
        Check.due("nothing to look at", x.best(1), -1);
        StainStreet late = Check.street(TO_AND_FRO);
        late.seen(40, 1, true);
        Check.dueAll("who by the fortieth day", all(late, 1), 0);
        StainStreet eight = Check.street("sd1h8;h;h;h;h;h;h;h;h;f");
        eight.seen(1, 0, false);
        Check.dueAll("who of eight", all(eight, 1), 1, 2, 3, 4, 5, 6, 7);
        StainStreet y = Check.street(TO_AND_FRO);
        y.seen(2, 0, true);
        Check.dueAll("who", all(y, 1), 0);
        Check.due("none behind it", y.who(1, 1), -1);
    }

    private static void whoAsTold() {
        StainStreet x = Check.street(TO_AND_FRO);
        x.sham(1, -9);
        x.move(1, 2);
        x.days(5);
        x.piano(0);
        x.seen(2, 0, false);
        Check.dueAll("from the street as told", all(x, 1), 1, 2, 9);
        // MIND 9 can be told no more.
        StainStreet y = Check.street("sd1h0;hm9;hm8;f");
        y.seen(1, 0, true);
        Check.dueAll("nine at most", all(y, 5), 0, 9);
        // 5 more stays: it is MIND as told from then on.
        StainStreet z = Check.street("sd9h0;hm9p1;hm4p1;f");
        z.seen(9, 1, true);
        Check.dueAll("minding stays", all(z, 5), 0, 1, 9);
        StainStreet w = Check.street("sd3h8;hm6p1;hm2p1;f");
        w.seen(3, 1, true);
        Check.dueAll("minding stays", all(w, 5), 1);
        Check.dueAll("by the law that holds", all(w, 4));
        Check.law(w, "y:9-m");
        Check.dueAll("by the law that holds", all(w, 4), 0, 9);
    }

    private static void best() {
        StainStreet x = Check.street(TO_AND_FRO);
        Check.dueAll("best", new int[] {x.best(1), x.best(5)}, 2, 6);
        Check.dueAll("refused", new int[] {x.best(0), x.best(6), x.best(MAX), x.best(MIN)}, -1, -1, -1, -1);
        x.seen(2, 1, true);
        // Then all tell the same by 1 more.
        Check.due("best of those that fit", x.best(1), 1);
        // By 5 more house 1 tells otherwise behind four days.
        Check.due("best of those that fit", x.best(5), 4);
        Check.due("without a street", new StainStreet().best(1), -1);
        // To and fro by how far it is, for four moving days; on the fifth MIND tells.
        StainStreet late = Check.street("sd8h0;h;h;h;ft1n1;ft1n2;ft1n3;ft1n4;ft9n4");
        Check.law(late, "y:t=9?m;y:d");
        Check.due("best is the fortieth day", late.best(1), 40);
        // None counts as a place: house 0 is told by one, none by two.
        StainStreet y = Check.street("sd4;hm0p1;hm0p0;f");
        Check.due("none is a place", y.best(2), 4);
    }

    private static void follows() {
        StainStreet x = Check.street("h;h;fn1;fn2;fn1;fn3");
        Check.dueAll("follows", new int[] {x.follows(0, 0), x.follows(0, 1), x.follows(0, 2), x.follows(0, 3),
            x.follows(0, 999), x.follows(2, 999), x.follows(3, 999)}, 0, 1, 2, 1, 1, 1, 3);
        Check.dueAll("refused", new int[] {x.follows(4, 0), x.follows(-1, 0), x.follows(0, -1), x.follows(0, 1000),
            x.follows(MAX, MAX)}, -1, -1, -1, -1, -1);
        Check.dueAll("ring", new int[] {x.ring(0), x.ring(1), x.ring(2), x.ring(3), x.ring(4), x.ring(-1),
            x.ring(MIN)}, 2, 2, 2, 1, -1, -1, -1);
        StainStreet six = Check.street("h;h;fn1;fn2;fn3;fn4;fn5;fn0");
        Check.dueAll("six", new int[] {six.ring(0), six.ring(5), six.follows(0, 999)}, 6, 6, 3);
        StainStreet tail = Check.street("h;h;fn1;fn2;fn3;fn4;fn5;fn5");
        Check.dueAll("a tail", new int[] {tail.ring(0), tail.ring(5), tail.follows(0, 4), tail.follows(0, 5)},
                1, 1, 4, 5);
    }

    private static void was() {
        StainStreet x = Check.street("h;h;fn1;fn2;fn1;fn3");
        Check.due("forms with nothing told", x.forms(), 15);
        Check.dueAll("refused", new int[] {x.was(-1, 0, true), x.was(61, 0, true), x.was(0, 4, true),
            x.was(0, -1, true), x.was(MAX, MIN, false)}, -1, -1, -1, -1, -1);
        Check.due("was", x.was(3, 3, false), 1);
        Check.due("forms", x.forms(), 7);
        Check.due("was", x.was(60, 2, true), 2);
        Check.due("forms", x.forms(), 5);
        Check.due("was", x.was(0, 0, false), 3);
        Check.due("forms", x.forms(), 4);
        Check.due("was", x.was(0, 2, false), 4);
        Check.due("forms, none", x.forms(), 0);
        for (int i = 5; i <= 10; i++) {
            Check.due("was", x.was(1, 1, true), i);
        }
        Check.due("there are ten", x.was(1, 1, true), -1);
        Check.due("count(8)", x.count(8), 10);
        StainStreet none = new StainStreet();
        Check.dueAll("without a street", new int[] {none.was(0, 0, true), none.forms(), none.follows(0, 0),
            none.ring(0), none.who(1, -1)}, -1, -1, -1, -1, -1);
    }

    private static void notUndone() {
        StainStreet x = Check.street(TO_AND_FRO);
        x.days(1);
        x.image();
        x.seen(2, 0, true);
        x.was(0, 0, true);
        x.undo();
        x.back();
        Check.dueAll("notes stay", new int[] {x.count(7), x.count(8), x.forms(), x.who(1, -1)}, 1, 1, 1, 1);
    }

    public static void main(String[] args) {
        seen();
        who();
        whoAsTold();
        best();
        follows();
        was();
        notUndone();
        Check.end("NotesTest");
    }
}
