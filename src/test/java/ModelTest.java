import java.util.NoSuchElementException;
import java.util.Random;

/** Long runs of calls, each answer laid beside the model's. */
public final class ModelTest {
    private static int wrong = 0;
    private static final int RUNS = 700;
    private static final int CALLS = 400;

    private final Random random;
    private final int run;
    private final StainStreet street = new StainStreet();
    private final Model model = new Model();
    private final StringBuilder story = new StringBuilder();
    // Some runs are long and meet the last day; most others would seldom refuse it.
    private final boolean hurries;

    private ModelTest(int run) {
        this.run = run;
        this.random = new Random(run * 7919L + 17);
        this.hurries = run % 25 == 0;
    }

    private int upTo(int n) {
        return random.nextInt(n + 1);
    }

    /** Mostly within the bounds, seldom just outside or far away. */
    private int within(int low, int high) {
        int luck = random.nextInt(40);
        if (luck == 0) {
            return low - 1;
        }
        if (luck == 1) {
            return high + 1;
        }
        if (luck == 2) {
            return random.nextBoolean() ? Integer.MIN_VALUE + upTo(3) : Integer.MAX_VALUE - upTo(3);
        }
        if (luck == 3) {
            return random.nextInt();
        }
        return low + random.nextInt(high - low + 1);
    }

    private int aHouse() {
        int houses = model.count(0);
        return random.nextInt(30) == 0 ? within(-1, 8) : houses == 0 ? upTo(1) : random.nextInt(houses);
    }

    private int aForm() {
        int forms = model.count(1);
        return random.nextInt(30) == 0 ? within(-1, 6) : forms == 0 ? 0 : random.nextInt(forms);
    }

    private int anIndex() {
        return random.nextInt(3) == 0 ? -1 : random.nextInt(12) == 0 ? within(-2, 60) : upTo(5);
    }

    private boolean due(String call, long got, long want) {
        story.append(call).append(' ').append(got).append('\n');
        if (got != want) {
            wrong++;
            System.out.println("run " + run + ": " + call + " answered " + got + ", due is " + want);
            return false;
        }
        return true;
    }

    // ---- texts

    private String blanks() {
        return random.nextInt(12) == 0 ? " ".repeat(1 + upTo(1)) : "";
    }

    private String item(char letter, int low, int high) {
        int v = low + random.nextInt(high - low + 1);
        String digits = v < 10 && random.nextInt(15) == 0 ? "0" + v : "" + v;
        return blanks() + letter + blanks() + digits;
    }

    private String aStreet() {
        int houses = random.nextInt(3) == 0 ? 2 + upTo(6) : 2 + upTo(1);
        int forms = 1 + upTo(5);
        StringBuilder text = new StringBuilder(blanks());
        boolean rules = random.nextInt(8) != 0;
        if (rules) {
            text.append('s');
            if (random.nextInt(5) != 0) {
                text.append(item('d', 1, random.nextBoolean() ? 2 : 9));
            }
            if (random.nextInt(4) != 0) {
                text.append(item('h', 0, random.nextInt(20) == 0 ? 8 : houses - 1));
            }
            if (random.nextInt(3) == 0) {
                text.append(item('f', 0, forms - 1));
            }
            if (random.nextInt(3) == 0) {
                text.append(item('c', 0, 99));
            }
            text.append(blanks()).append(';');
        }
        for (int i = 0; i < houses; i++) {
            text.append(blanks()).append('h');
            for (char letter : new char[] {'p', 'm', 'g', 'w'}) {
                if (random.nextInt(3) != 0) {
                    text.append(item(letter, 0, random.nextBoolean() ? 9 : 4));
                }
            }
            text.append(blanks()).append(';');
        }
        for (int i = 0; i < forms; i++) {
            text.append(blanks()).append('f');
            if (random.nextBoolean()) {
                text.append(item('n', 0, forms - 1));
            }
            if (random.nextBoolean()) {
                text.append(item('t', 1, 9));
            }
            text.append(blanks()).append(i + 1 < forms ? ";" : "");
        }
        return text.toString();
    }

    private String aSum(int depth) {
        StringBuilder text = new StringBuilder();
        int atoms = 1 + random.nextInt(3);
        for (int i = 0; i < atoms; i++) {
            if (i > 0) {
                text.append(blanks()).append("+-*/".charAt(upTo(3)));
            }
            text.append(blanks());
            int kind = random.nextInt(8);
            if (kind == 0 && depth < 6) {
                text.append('[').append(aSum(depth + 1)).append(blanks()).append(']');
            } else if (kind < 3) {
                text.append(random.nextInt(6) == 0 ? random.nextInt(10000) : random.nextInt(12));
            } else {
                text.append("mwgptdmw".charAt(upTo(7)));
            }
        }
        return text.toString();
    }

    private String aCondition(int depth) {
        StringBuilder text = new StringBuilder();
        int units = random.nextInt(3) == 0 ? 1 + upTo(2) : 1;
        for (int i = 0; i < units; i++) {
            if (i > 0) {
                text.append(blanks()).append("&|".charAt(upTo(1)));
            }
            int inner = depth;
            while (random.nextInt(5) == 0 && inner < 6) {
                text.append(blanks()).append('!');
                inner++;
            }
            if (random.nextInt(5) == 0 && inner < 6) {
                text.append(blanks()).append('(').append(aCondition(inner + 1)).append(')');
            } else {
                text.append(aSum(inner)).append("=<>".charAt(upTo(2))).append(aSum(inner));
            }
        }
        return text.toString();
    }

    private String aLaw() {
        StringBuilder text = new StringBuilder();
        int clauses = 1 + upTo(2);
        for (int i = 0; i < clauses; i++) {
            text.append(i > 0 ? ";" : "").append(blanks()).append('y').append(blanks()).append(':').append(blanks());
            if (random.nextInt(3) != 0) {
                text.append(aCondition(0)).append(blanks()).append('?');
            }
            text.append(aSum(0));
        }
        return text.append(blanks()).toString();
    }

    private String spoilt(String text, String signs) {
        StringBuilder spoilt = new StringBuilder(text);
        for (int i = 0; i <= upTo(1) && spoilt.length() > 0; i++) {
            int at = random.nextInt(spoilt.length());
            char sign = random.nextInt(20) == 0 ? (char) (1 + upTo(254)) : signs.charAt(upTo(signs.length() - 1));
            switch (random.nextInt(4)) {
                case 0:
                    spoilt.setLength(at);
                    break;
                case 1:
                    spoilt.deleteCharAt(at);
                    break;
                case 2:
                    spoilt.insert(at, sign);
                    break;
                default:
                    spoilt.setCharAt(at, sign);
                    break;
            }
        }
        return spoilt.toString();
    }

    private boolean feed(String text) {
        boolean same = true;
        for (int from = 0; from < text.length() && same; from += 17) {
            int[] words = new int[5];
            int slot = upTo(3);
            for (int i = from; i < Math.min(from + 17, text.length()); i++) {
                words[slot / 4] |= text.charAt(i) << 24 - 8 * (slot % 4);
                slot++;
            }
            String call = "feed(" + words[0] + ", " + words[1] + ", " + words[2] + ", " + words[3] + ", " + words[4]
                    + ")";
            same = due(call, street.feed(words[0], words[1], words[2], words[3], words[4]), model.feed(words));
        }
        return same;
    }

    private boolean texts(int sort) {
        String text = sort == 0 ? aStreet() : aLaw();
        boolean isSpoilt = random.nextInt(4) == 0;
        if (isSpoilt) {
            text = spoilt(text, sort == 0 ? "shfdcmwgptn0123456789; " : "ymwgptd0123456789:?|&!()[]=<>+-*/; ");
        }
        int other = random.nextInt(30) == 0 ? within(-1, 2) : sort;
        return due("end(0)", street.end(0) ? 1 : 0, model.end(0) ? 1 : 0) && feed(text)
                && due("fault(" + other + ")", street.fault(other), model.fault(other))
                && due("fault(" + sort + ")", street.fault(sort), model.fault(sort))
                && due("text(" + sort + ")", street.text(sort), model.text(sort));
    }

    private boolean spoiltFaults() {
        boolean same = true;
        for (int i = 0; i < 3 && same; i++) {
            int sort = upTo(1);
            String text = sort == 0 ? aStreet() : aLaw();
            text = spoilt(text, sort == 0 ? "shfdcmwgptn0123456789; " : "ymwgptd0123456789:?|&!()[]=<>+-*/; ");
            int cut = within(0, 240);
            same = due("end(0)", street.end(0) ? 1 : 0, model.end(0) ? 1 : 0) && feed(text)
                    && due("fault(" + sort + ")", street.fault(sort), model.fault(sort))
                    && due("end(" + cut + ")", street.end(cut) ? 1 : 0, model.end(cut) ? 1 : 0)
                    && due("fault(" + sort + ")", street.fault(sort), model.fault(sort));
        }
        return same;
    }

    // ---- calls

    private static long caught(StainStreet street, int house, int what) {
        try {
            return street.house(house, what);
        } catch (NoSuchElementException e) {
            return Long.MIN_VALUE;
        }
    }

    private static long caught(Model model, int house, int what) {
        try {
            return model.house(house, what);
        } catch (NoSuchElementException e) {
            return Long.MIN_VALUE;
        }
    }

    private boolean anAct() {
        int h = aHouse();
        int v;
        switch (random.nextInt(12)) {
            case 0:
                v = within(-9, 9);
                return due("sham(" + h + ", " + v + ")", street.sham(h, v), model.sham(h, v));
            case 1:
                v = within(0, 9);
                return due("hang(" + h + ", " + v + ")", street.hang(h, v), model.hang(h, v));
            case 2:
                return due("whiten(" + h + ")", street.whiten(h), model.whiten(h));
            case 3:
                return due("piano(" + h + ")", street.piano(h), model.piano(h));
            case 4:
                v = aHouse();
                return due("move(" + h + ", " + v + ")", street.move(h, v), model.move(h, v));
            case 5:
                v = within(1, 50);
                return due("give(" + v + ")", street.give(v), model.give(v));
            case 6:
            case 7:
                v = hurries ? 60 : random.nextInt(3) == 0 ? within(1, 60) : within(1, 4);
                return due("days(" + v + ")", street.days(v), model.days(v));
            case 8:
                v = hurries ? 60 : random.nextInt(3) == 0 ? within(1, 60) : within(1, 4);
                long seed = random.nextInt(3) == 0 ? random.nextLong() : random.nextInt(100);
                return due("years(" + v + ", " + seed + ")", street.years(v, seed), model.years(v, seed));
            case 9:
                v = within(0, 9);
                return due("moods(" + v + ")", street.moods(v) ? 1 : 0, model.moods(v) ? 1 : 0);
            case 10:
                v = random.nextInt(3) == 0 ? within(-1, 4) : model.count(2) - 1;
                return due("law(" + v + ")", street.law(v) ? 1 : 0, model.law(v) ? 1 : 0);
            default:
                return takenBack();
        }
    }

    private boolean takenBack() {
        int luck = random.nextInt(hurries ? 40 : 10);
        if (luck == 0) {
            return due("image()", street.image(), model.image());
        }
        if (luck == 1) {
            return due("back()", street.back(), model.back());
        }
        boolean same = true;
        int times = luck == 2 ? 45 : hurries ? 1 : 1 + upTo(2);
        for (int i = 0; i < times && same; i++) {
            same = due("undo()", street.undo(), model.undo());
        }
        return same;
    }

    private boolean aLook() {
        int h = aHouse();
        int w;
        switch (random.nextInt(7)) {
            case 0:
                w = within(0, 3);
                return due("rule(" + w + ")", street.rule(w), model.rule(w));
            case 1:
                w = within(0, 6);
                return due("house(" + h + ", " + w + ")", caught(street, h, w), caught(model, h, w));
            case 2:
                int f = aForm();
                w = within(0, 1);
                return due("form(" + f + ", " + w + ")", street.form(f, w), model.form(f, w));
            case 3:
                w = within(0, 4);
                return due("status(" + w + ")", street.status(w), model.status(w));
            case 4:
                int i = random.nextInt(4) == 0 ? within(0, 59) : upTo(3);
                w = within(0, 2);
                return due("log(" + i + ", " + w + ")", street.log(i, w), model.log(i, w));
            case 5:
                w = within(0, 11);
                return due("count(" + w + ")", street.count(w), model.count(w));
            default:
                w = within(0, 5);
                return due("most(" + w + ")", street.most(w), model.most(w));
        }
    }

    private boolean aReckoning() {
        int h = aHouse();
        int o = aHouse();
        int i = anIndex();
        int n = within(1, 60);
        int w = within(0, 1);
        int c;
        int x;
        switch (random.nextInt(14)) {
            case 0:
                n = within(0, 60);
                return due("ahead(" + n + ", " + w + ")", street.ahead(n, w), model.ahead(n, w));
            case 1:
                return due("soonest(" + h + ")", street.soonest(h), model.soonest(h));
            case 2:
                return due("visits(" + n + ")", street.visits(n), model.visits(n));
            case 3:
                return due("empty(" + n + ")", street.empty(n), model.empty(n));
            case 4:
                return due("goesTo()", street.goesTo(), model.goesTo());
            case 5:
                return due("least(" + h + ", " + w + ")", street.least(h, w), model.least(h, w));
            case 6:
                return due("rid()", street.rid(), model.rid());
            case 7:
                return due("white(" + h + ")", street.white(h), model.white(h));
            case 8:
                c = within(1, 3);
                return due("treaties(" + c + ", " + i + ")", street.treaties(c, i), model.treaties(c, i));
            case 9:
                c = within(0, 6);
                x = within(0, 6);
                return due("game(" + h + ", " + o + ", " + x + ", " + c + ", " + w + ")",
                        street.game(h, o, x, c, w), model.game(h, o, x, c, w));
            case 10:
                return due("rests(" + h + ", " + o + ", " + i + ")", street.rests(h, o, i), model.rests(h, o, i));
            case 11:
                c = within(0, 100);
                x = random.nextInt(4) == 0 ? -1 : h;
                return due("odds(" + x + ", " + c + ")", street.odds(x, c), model.odds(x, c));
            case 12:
                c = within(0, 999);
                return due("shares(" + h + ", " + c + ")", street.shares(h, c), model.shares(h, c));
            default:
                return due("used(" + h + ")", street.used(h), model.used(h))
                        && due("near(" + h + ")", street.near(h), model.near(h));
        }
    }

    private boolean aNote() {
        int h = aHouse();
        int f = aForm();
        int i = anIndex();
        int g = within(1, 5);
        int n;
        boolean is = random.nextInt(3) == 0;
        switch (random.nextInt(7)) {
            case 0:
                n = within(1, 40);
                return due("seen(" + n + ", " + h + ", " + is + ")", street.seen(n, h, is), model.seen(n, h, is));
            case 1:
                return due("who(" + g + ", " + i + ")", street.who(g, i), model.who(g, i));
            case 2:
                return due("best(" + g + ")", street.best(g), model.best(g));
            case 3:
                n = within(0, 60);
                return due("was(" + n + ", " + f + ", " + is + ")", street.was(n, f, is), model.was(n, f, is));
            case 4:
                return due("forms()", street.forms(), model.forms());
            case 5:
                n = within(0, 999);
                return due("follows(" + f + ", " + n + ")", street.follows(f, n), model.follows(f, n));
            default:
                return due("ring(" + f + ")", street.ring(f), model.ring(f));
        }
    }

    private boolean allIsSame() {
        boolean same = true;
        for (int w = -1; w <= 12 && same; w++) {
            same = due("count(" + w + ")", street.count(w), model.count(w))
                    && due("rule(" + w + ")", street.rule(w), model.rule(w))
                    && due("status(" + w + ")", street.status(w), model.status(w))
                    && due("most(" + w + ")", street.most(w), model.most(w));
            for (int h = -1; h <= 8 && same && w < 8; h++) {
                same = due("house(" + h + ", " + w + ")", caught(street, h, w), caught(model, h, w));
            }
        }
        for (int i = -1; i <= 61 && same; i++) {
            for (int w = -1; w <= 3 && same; w++) {
                same = due("log(" + i + ", " + w + ")", street.log(i, w), model.log(i, w));
            }
        }
        return same;
    }

    private void runAll() {
        boolean same = random.nextInt(10) == 0 || texts(0);
        for (int i = 0; i < CALLS && same; i++) {
            int luck = random.nextInt(100);
            if (luck == 0 && !hurries) {
                same = texts(0);
            } else if (luck < 3) {
                same = texts(1);
            } else if (luck < 5) {
                same = spoiltFaults();
            } else if (luck < (hurries ? 95 : 45)) {
                same = anAct();
            } else if (luck < 60) {
                same = aLook();
            } else if (luck < 85) {
                same = aReckoning();
            } else {
                same = aNote();
            }
        }
        if (same && !allIsSame() || !same) {
            String[] lines = story.toString().split("\n");
            for (int i = Math.max(0, lines.length - 12); i < lines.length; i++) {
                System.out.println("    " + lines[i]);
            }
        }
    }

    public static void main(String[] args) {
        for (int run = 0; run < RUNS && wrong < 5; run++) {
            new ModelTest(run).runAll();
        }
        System.out.println(wrong == 0 ? RUNS + " runs are as the model has them" : "the model has it otherwise");
        if (wrong != 0) {
            System.exit(1);
        }
    }
}
