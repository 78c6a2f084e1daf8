import java.util.function.ToLongFunction;

/** The edges of SEEN, WHO, LOOK, FOLLOWS, RING, WAS and FORMS (Terms, part 3), and of promises 33 to 39. */
public final class NoteEdgesTest {
    private static final int MAX = Integer.MAX_VALUE;
    private static final int MIN = Integer.MIN_VALUE;
    // In 0 behind two DAYS, in 1 behind the next two, and so on; nobody lives in 2.
    private static final String TO_AND_FRO = "sd2h0;hm4;hm3;hm0p0;fn1;fn2;fn0";

    private static StainStreet busy() {
        StainStreet x = Check.street(TO_AND_FRO);
        x.days(5);
        x.image();
        x.sham(1, 3);
        x.seen(4, 1, false);
        x.was(2, 1, false);
        Check.feed(x, "h;h;f");
        return x;
    }

    private static void refused(String call, ToLongFunction<StainStreet> calling) {
        Twins.refused(call, NoteEdgesTest::busy, calling, -1, -1);
    }

    private static void refusedWithoutStreet(String call, ToLongFunction<StainStreet> calling) {
        Twins.refused(call + " without a STREET", StainStreet::new, calling, -1, -1);
    }

    private static StainStreet withNotes(int many) {
        StainStreet x = Check.street(TO_AND_FRO);
        for (int i = 1; i <= many; i++) {
            Check.due("seen, number " + i, x.seen(1, 2, false), i);
            Check.due("was, number " + i, x.was(0, 2, false), i);
        }
        return x;
    }

    private static void seen() {
        Check.by("SEEN (10 at most); 33: how many there are. NONE: there are ten");
        Check.due("none at first", withNotes(0).count(7), 0);
        Check.due("the tenth", withNotes(9).seen(1, 1, true), 10);
        Check.due("count(7)", withNotes(10).count(7), 10);
        Twins.refused("the eleventh", () -> withNotes(10), y -> y.seen(2, 0, true), -1, -1);
        StainStreet tenth = withNotes(9);
        tenth.seen(2, 0, true);
        Check.dueAll("the tenth counts, too", who(tenth, 1), 0);
        Check.by("SEEN: behind n (1 .. 40) DAYS");
        for (int n = 1; n <= 40; n++) {
            StainStreet x = Check.street(TO_AND_FRO);
            int place = x.ahead(n, 0);
            Check.due("seen(" + n + ")", x.seen(n, place, true), 1);
            Check.due("it is so with none, the last of WHO", x.who(1, x.who(1, -1) - 1), 9);
            Check.due("seen(" + n + "), or was not", x.seen(n, place, false), 2);
            Check.due("both together are so with nobody", x.who(1, -1), 0);
        }
        Check.by("33: NONE: no such HOUSE, out of bounds");
        for (int n : new int[] {0, -1, 41, MIN, MAX}) {
            refused("seen(" + n + ", 0, true)", y -> y.seen(n, 0, true));
        }
        for (int house : new int[] {-1, 3, 7, 8, 9, MIN, MAX}) {
            refused("seen(1, " + house + ", false)", y -> y.seen(1, house, false));
        }
        refusedWithoutStreet("seen(1, 0, true)", y -> y.seen(1, 0, true));
    }

    private static int[] who(StainStreet x, int g) {
        int[] all = new int[Math.max(0, x.who(g, -1))];
        for (int i = 0; i < all.length; i++) {
            all[i] = x.who(g, i);
        }
        Check.due("no such one behind the last", x.who(g, all.length), -1);
        return all;
    }

    private static void whoMindedMore() {
        Check.by("WHO for g (1 .. 5): and 9, if it is so with none: how many, the i-th (rising)");
        StainStreet x = Check.street("h;h;h;h;h;h;h;h;f");
        for (int g = 1; g <= 5; g++) {
            Check.dueAll("nothing SEEN", who(x, g), 0, 1, 2, 3, 4, 5, 6, 7, 9);
        }
        // MIND 2 and g against 4, nine DAYS later.
        StainStreet y = Check.street("sd9h8;hm2p1;hm4p1;f");
        y.seen(9, 0, true);
        Check.by("WHO: from then on that is MIND as told");
        Check.dueAll("g 1", who(y, 1));
        Check.dueAll("g 2", who(y, 2), 0);
        Check.dueAll("g 5", who(y, 5), 0);
        Check.by("WHO: MIND was told g more (9 at most)");
        StainStreet nine = Check.street("sd1;hm9p9;hm8p2;f");
        nine.seen(1, 1, true);
        Check.dueAll("8 and 5 is 9", who(nine, 5));
        StainStreet all = Check.street("sd1;hm9p1;hm8p3;hm0p0;f");
        all.seen(1, 1, true);
        Check.dueAll("8 and 1 is 9", who(all, 1), 1);
        Check.by("34: NONE: no such one, no STREET, out of bounds");
        for (int g : new int[] {0, -1, 6, MIN, MAX}) {
            refused("who(" + g + ", -1)", z -> z.who(g, -1));
            refused("who(" + g + ", 0)", z -> z.who(g, 0));
        }
        for (int i : new int[] {-2, 4, 9, MIN, MAX}) {
            refused("who(1, " + i + ")", z -> z.who(1, i));
        }
        refusedWithoutStreet("who(1, -1)", z -> z.who(1, -1));
        refusedWithoutStreet("who(1, 0)", z -> z.who(1, 0));
    }

    private static void fromTheStreetAsTold() {
        Check.by("SEEN: from the STREET as told");
        StainStreet x = busy();
        int[] before = who(x, 2);
        x.sham(0, -9);
        x.hang(0, 9);
        x.piano(1);
        x.move(0, 2);
        x.days(7);
        x.years(3, 5L);
        Check.dueAll("whatever was done since", who(x, 2), before);
    }

    private static StainStreet toAndFroBy(int between) {
        // To and fro by how far it is, for four MOVING DAYS; on the fifth MIND tells.
        StainStreet x = Check.street("sd" + between + "h0;h;h;h;ft1n1;ft1n2;ft1n3;ft1n4;ft9n4");
        Check.law(x, "y:t=9?m;y:d");
        return x;
    }

    private static void look() {
        Check.by("LOOK for g: the n (1 .. 40) (of several the least)");
        Check.due("the first DAY", Check.street("sd1;h;h;h;f").best(1), 1);
        Check.due("the fortieth DAY", toAndFroBy(8).best(1), 40);
        Check.due("the 45th is beyond it: all alike", toAndFroBy(9).best(1), 1);
        Check.due("nobody minds: all alike", Check.street("hp0;hp0;f").best(5), 1);
        Check.by("LOOK: the place (none counts as one)");
        Check.due("none by two, 0 by one", Check.street("sd4;hm0p1;hp0;f").best(2), 4);
        Check.by("LOOK: of these that fit WHO");
        StainStreet one = Check.street("sd4;hm0p1;hp0;f");
        one.seen(4, 0, true);
        Check.due("one alone", one.best(2), 1);
        Check.by("35: NONE: nothing fits");
        one.seen(4, 0, false);
        Check.due("nothing", one.best(2), -1);
        Check.by("35: NONE: no STREET, out of bounds");
        for (int g : new int[] {0, -1, 6, MIN, MAX}) {
            refused("best(" + g + ")", z -> z.best(g));
        }
        for (int g = 1; g <= 5; g++) {
            Check.due("best(" + g + ")", Check.street("h;h;f").best(g) > 0, true);
        }
        refusedWithoutStreet("best(1)", z -> z.best(1));
    }

    private static void follows() {
        Check.by("FOLLOWS of a FORM by k (0 .. 999) changes");
        StainStreet six = Check.street("h;h;fn1;fn2;fn3;fn4;fn5;fn0");
        Check.dueAll("of six", new int[] {six.follows(0, 0), six.follows(0, 1), six.follows(0, 5), six.follows(0, 6),
            six.follows(5, 1), six.follows(0, 998), six.follows(0, 999), six.follows(5, 999)}, 0, 1, 5, 0, 0, 2, 3, 2);
        Check.due("itself", Check.street("h;h;f").follows(0, 999), 0);
        Check.by("36: NONE: no such FORM, out of bounds");
        for (int k : new int[] {-1, 1000, MIN, MAX}) {
            refused("follows(0, " + k + ")", y -> y.follows(0, k));
        }
        for (int form : new int[] {-1, 3, 6, MIN, MAX}) {
            refused("follows(" + form + ", 0)", y -> y.follows(form, 0));
        }
        Check.due("follows(6, 0) of six", six.follows(6, 0), -1);
        refusedWithoutStreet("follows(0, 0)", y -> y.follows(0, 0));
    }

    private static void ring() {
        Check.by("RING: how many FORMS come again and again from a FORM on");
        Check.due("one", Check.street("h;h;f").ring(0), 1);
        StainStreet all = Check.street("h;h;fn1;fn2;fn3;fn4;fn5;fn0");
        StainStreet tail = Check.street("h;h;fn1;fn2;fn3;fn4;fn5;fn5");
        StainStreet some = Check.street("h;h;fn1;fn2;fn3;fn4;fn5;fn2");
        for (int form = 0; form < 6; form++) {
            Check.dueAll("ring(" + form + ") of six, of one, of four",
                    new int[] {all.ring(form), tail.ring(form), some.ring(form)}, 6, 1, 4);
        }
        Check.by("37: NONE: no such FORM");
        for (int form : new int[] {-1, 3, 6, MIN, MAX}) {
            refused("ring(" + form + ")", y -> y.ring(form));
        }
        Check.due("ring(6) of six", all.ring(6), -1);
        refusedWithoutStreet("ring(0)", y -> y.ring(0));
    }

    private static void was() {
        Check.by("WAS (10 at most); 38: how many there are. NONE: there are ten");
        Check.due("none at first", withNotes(0).count(8), 0);
        Check.due("the tenth", withNotes(9).was(0, 2, true), 10);
        Check.due("count(8)", withNotes(10).count(8), 10);
        Twins.refused("the eleventh", () -> withNotes(10), y -> y.was(1, 1, true), -1, -1);
        Check.by("WAS: behind k (0 .. 60) changes");
        for (int k = 0; k <= 60; k++) {
            StainStreet x = Check.street(TO_AND_FRO);
            Check.due("was(" + k + ")", x.was(k, k % 3, true), 1);
            Check.due("it began with 0", x.forms(), 1);
            StainStreet not = Check.street(TO_AND_FRO);
            Check.due("was(" + k + "), or was not", not.was(k, k % 3, false), 1);
            Check.due("it began with another", not.forms(), 6);
        }
        Check.by("38: NONE: no such FORM, out of bounds");
        for (int k : new int[] {-1, 61, MIN, MAX}) {
            refused("was(" + k + ", 0, true)", y -> y.was(k, 0, true));
        }
        for (int form : new int[] {-1, 3, 6, MIN, MAX}) {
            refused("was(0, " + form + ", false)", y -> y.was(0, form, false));
        }
        refusedWithoutStreet("was(0, 0, true)", y -> y.was(0, 0, true));
    }

    private static void forms() {
        Check.by("FORMS: those (bits) with which it could have begun, by all WAS");
        Check.due("nothing told", Check.street("h;h;f").forms(), 1);
        StainStreet x = Check.street("h;h;f;f;f;f;f;f");
        Check.due("nothing told of six", x.forms(), 63);
        x.was(0, 5, true);
        Check.due("the sixth", x.forms(), 32);
        x.was(0, 5, false);
        Check.due("none", x.forms(), 0);
        StainStreet last = withNotes(9);
        last.was(0, 1, false);
        Check.due("the tenth counts, too", last.forms(), 1);
        Check.by("39: NONE: no STREET");
        refusedWithoutStreet("forms()", y -> y.forms());
    }

    public static void main(String[] args) {
        seen();
        whoMindedMore();
        fromTheStreetAsTold();
        look();
        follows();
        ring();
        was();
        forms();
        Check.end("NoteEdgesTest");
    }
}
