import java.util.ArrayDeque;
import java.util.ArrayList;
import java.util.Deque;
import java.util.List;
import java.util.NoSuchElementException;
import java.util.Set;
import java.util.TreeSet;

/**
 * The document said once more, in another way than the class does: whole copies instead of rows used again,
 * laws reckoned from their text, sets of places instead of a reader, search instead of short cuts.
 */
final class Model {
    static final int NONE = -1;
    static final int HIDDEN = -1000000;

    /** A house, as it is now. */
    static final class House implements Cloneable {
        int told;
        int mind;
        int sham;
        int white;
        int hangings;
        int people;
        boolean piano;

        House copy() {
            House h = new House();
            h.told = told;
            h.mind = mind;
            h.sham = sham;
            h.white = white;
            h.hangings = hangings;
            h.people = people;
            h.piano = piano;
            return h;
        }
    }

    /** A street, as it is now. */
    static final class World {
        List<House> houses = new ArrayList<>();
        List<int[]> forms = new ArrayList<>();
        List<int[]> log = new ArrayList<>();
        int every = 3;
        int place = 8;
        int form;
        int coins = 20;
        int day;

        World copy() {
            World w = new World();
            for (House h : houses) {
                w.houses.add(h.copy());
            }
            w.forms.addAll(forms);
            w.log.addAll(log);
            w.every = every;
            w.place = place;
            w.form = form;
            w.coins = coins;
            w.day = day;
            return w;
        }
    }

    private String tape = "";
    private World first;
    private World now;
    private World picture;
    private final Deque<World> acts = new ArrayDeque<>();
    private final List<String> laws = new ArrayList<>();
    private final List<int[]> seen = new ArrayList<>();
    private final List<int[]> was = new ArrayList<>();
    private final int[] status = new int[5];
    private int held = NONE;
    private int moods;

    // ---- texts

    int feed(int... words) {
        StringBuilder more = new StringBuilder(tape);
        for (int word : words) {
            for (int k = 3; k >= 0; k--) {
                int sign = word >> 8 * k & 0xff;
                if (sign > 0) {
                    more.append((char) sign);
                }
            }
        }
        if (more.length() > 240) {
            return NONE;
        }
        tape = more.toString();
        return tape.length();
    }

    boolean end(int n) {
        if (n < 0 || n > tape.length()) {
            return false;
        }
        tape = tape.substring(0, n);
        return true;
    }

    int fault(int sort) {
        if (sort == 0) {
            return readStreet(tape, new World());
        }
        return sort == 1 ? lawFault(tape) : -2;
    }

    int text(int sort) {
        if (sort == 1 && laws.size() < 4 && lawFault(tape) == NONE) {
            laws.add(tape.replace(" ", ""));
            tape = "";
            return laws.size() - 1;
        }
        World read = new World();
        if (sort != 0 || readStreet(tape, read) != NONE) {
            return NONE;
        }
        first = read;
        now = read.copy();
        picture = null;
        acts.clear();
        seen.clear();
        was.clear();
        tape = "";
        return now.houses.size();
    }

    /** One token behind the other; a run of digits is one. */
    private static int readStreet(String text, World into) {
        char kind = 0;
        char item = 0;
        boolean wantsClause = true;
        String there = "";
        int rules = 0;
        int at = 0;
        while (at < text.length()) {
            char c = text.charAt(at);
            if (c == ' ') {
                at++;
                continue;
            }
            if (item != 0) {
                int stop = at;
                while (stop < text.length() && Character.isDigit(text.charAt(stop)) && text.charAt(stop) < 128) {
                    stop++;
                }
                if (stop == at) {
                    return at;
                }
                if (stop - at > 2) {
                    return at + 2;
                }
                if (!tell(into, kind, item, Integer.parseInt(text.substring(at, stop)))) {
                    return stop - 1;
                }
                item = 0;
                at = stop;
                continue;
            }
            if (wantsClause) {
                boolean fits = c == 's' ? rules++ < 1
                        : c == 'h' ? into.houses.size() < 8 : c == 'f' && into.forms.size() < 6;
                if (!fits) {
                    return at;
                }
                kind = c;
                there = "";
                wantsClause = false;
                if (c == 'h') {
                    House h = new House();
                    h.told = 3;
                    h.mind = 3;
                    h.people = 2;
                    into.houses.add(h);
                } else if (c == 'f') {
                    into.forms.add(new int[] {3, 0});
                }
            } else if (c == ';') {
                wantsClause = true;
            } else {
                String letters = kind == 's' ? "dhfc" : kind == 'h' ? "mwgp" : "tn";
                if (letters.indexOf(c) < 0 || there.indexOf(c) >= 0) {
                    return at;
                }
                there += c;
                item = c;
            }
            at++;
        }
        boolean whole = !wantsClause && item == 0 && into.houses.size() >= 2 && !into.forms.isEmpty()
                && (into.place == 8 || into.place < into.houses.size()) && into.form < into.forms.size();
        for (int[] f : into.forms) {
            whole &= f[1] < into.forms.size();
        }
        return whole ? NONE : text.length();
    }

    private static boolean tell(World into, char kind, char item, int v) {
        if (kind == 's') {
            switch (item) {
                case 'd': into.every = v; return v >= 1 && v <= 9;
                case 'h': into.place = v; return v <= 8;
                case 'f': into.form = v; return v <= 5;
                default: into.coins = v; return true;
            }
        }
        if (kind == 'h') {
            House h = into.houses.get(into.houses.size() - 1);
            switch (item) {
                case 'm': h.told = v; h.mind = v; break;
                case 'w': h.white = v; break;
                case 'g': h.hangings = v; break;
                default: h.people = v; break;
            }
            return v <= 9;
        }
        int[] f = into.forms.get(into.forms.size() - 1);
        f[item == 't' ? 0 : 1] = v;
        return item == 't' ? v >= 1 && v <= 9 : v <= 5;
    }

    // A law's fault: all ways to read it at once; the furthest place at which any of them wants a sign.

    private String lawText;
    private int furthest;

    private int lawFault(String text) {
        lawText = text;
        furthest = 0;
        Set<Integer> places = new TreeSet<>(Set.of(0));
        boolean whole = false;
        while (!places.isEmpty()) {
            Set<Integer> behind = oneSign(oneSign(places, "y"), ":");
            Set<Integer> condition = oneSign(condition(behind, 0), "?");
            condition.addAll(behind);
            Set<Integer> ends = sum(condition, 0);
            for (int p : ends) {
                int q = pastBlanks(p);
                whole |= q == text.length();
                furthest = Math.max(furthest, q);
            }
            places = oneSign(ends, ";");
        }
        return whole ? NONE : furthest;
    }

    private int pastBlanks(int p) {
        int q = p;
        while (q < lawText.length() && lawText.charAt(q) == ' ') {
            q++;
        }
        return q;
    }

    private Set<Integer> oneSign(Set<Integer> from, String signs) {
        Set<Integer> to = new TreeSet<>();
        for (int p : from) {
            int q = pastBlanks(p);
            furthest = Math.max(furthest, q);
            if (q < lawText.length() && signs.indexOf(lawText.charAt(q)) >= 0) {
                to.add(q + 1);
            }
        }
        return to;
    }

    private Set<Integer> joinedBy(Set<Integer> from, int level, int depth) {
        String[] signs = {"|", "&", "+-", "*/"};
        Set<Integer> all = new TreeSet<>();
        Set<Integer> starts = from;
        while (!starts.isEmpty()) {
            Set<Integer> ends = level == 0 ? joinedBy(starts, 1, depth) : level == 1 ? unit(starts, depth)
                    : level == 2 ? joinedBy(starts, 3, depth) : atom(starts, depth);
            all.addAll(ends);
            starts = oneSign(ends, signs[level]);
        }
        return all;
    }

    private Set<Integer> condition(Set<Integer> from, int depth) {
        return joinedBy(from, 0, depth);
    }

    private Set<Integer> sum(Set<Integer> from, int depth) {
        return joinedBy(from, 2, depth);
    }

    private Set<Integer> unit(Set<Integer> from, int depth) {
        Set<Integer> all = new TreeSet<>();
        if (from.isEmpty()) {
            return all;
        }
        if (depth < 6) {
            all.addAll(unit(oneSign(from, "!"), depth + 1));
            Set<Integer> opened = oneSign(from, "(");
            if (!opened.isEmpty()) {
                all.addAll(oneSign(condition(opened, depth + 1), ")"));
            }
        }
        Set<Integer> compared = oneSign(sum(from, depth), "=<>");
        if (!compared.isEmpty()) {
            all.addAll(sum(compared, depth));
        }
        return all;
    }

    private Set<Integer> atom(Set<Integer> from, int depth) {
        Set<Integer> all = oneSign(from, "mwgptd");
        if (depth < 6) {
            Set<Integer> opened = oneSign(from, "[");
            if (!opened.isEmpty()) {
                all.addAll(oneSign(sum(opened, depth + 1), "]"));
            }
        }
        for (int p : oneSign(from, "0123456789")) {
            int q = p;
            all.add(q);
            while (q < lawText.length() && q < p + 3 && "0123456789".indexOf(lawText.charAt(q)) >= 0) {
                q++;
                all.add(q);
            }
        }
        return all;
    }

    // A law's worth: the text is cut at the last sign that stands in no bracket.

    private static int lastOutside(String s, String signs) {
        int open = 0;
        for (int i = s.length() - 1; i >= 0; i--) {
            char c = s.charAt(i);
            open += c == ')' || c == ']' ? 1 : c == '(' || c == '[' ? -1 : 0;
            if (open == 0 && signs.indexOf(c) >= 0) {
                return i;
            }
        }
        return -1;
    }

    private static long worthOf(String law, int[] letters) {
        for (String clause : law.split(";")) {
            String body = clause.substring(2);
            int ask = body.indexOf('?');
            if (ask < 0 || holds(body.substring(0, ask), letters)) {
                return number(body.substring(ask + 1), letters);
            }
        }
        return 0;
    }

    private static boolean holds(String s, int[] letters) {
        int or = lastOutside(s, "|");
        if (or >= 0) {
            return holds(s.substring(0, or), letters) || holds(s.substring(or + 1), letters);
        }
        int and = lastOutside(s, "&");
        if (and >= 0) {
            return holds(s.substring(0, and), letters) && holds(s.substring(and + 1), letters);
        }
        if (s.startsWith("!")) {
            return !holds(s.substring(1), letters);
        }
        if (s.startsWith("(")) {
            return holds(s.substring(1, s.length() - 1), letters);
        }
        int at = lastOutside(s, "=<>");
        int way = Long.compare(number(s.substring(0, at), letters), number(s.substring(at + 1), letters));
        return s.charAt(at) == '=' ? way == 0 : s.charAt(at) == '<' ? way < 0 : way > 0;
    }

    private static long number(String s, int[] letters) {
        int at = lastOutside(s, "+-");
        if (at < 0) {
            at = lastOutside(s, "*/");
        }
        if (at < 0) {
            if (s.startsWith("[")) {
                return number(s.substring(1, s.length() - 1), letters);
            }
            int letter = "mwgptd".indexOf(s.charAt(0));
            return letter >= 0 ? letters[letter] : Long.parseLong(s);
        }
        long a = number(s.substring(0, at), letters);
        long b = number(s.substring(at + 1), letters);
        char c = s.charAt(at);
        long r = c == '+' ? a + b : c == '-' ? a - b : c == '*' ? a * b : b == 0 ? 0 : a / b;
        return Math.max(-1000000L, Math.min(1000000L, r));
    }

    // ---- the stain

    private int minded(World w, int i) {
        House h = w.houses.get(i);
        if (h.people == 0 || h.piano) {
            return 0;
        }
        long worth = h.mind + h.sham + h.white + h.people / 2 - h.hangings;
        if (held != NONE) {
            int far = w.place == 8 ? 9 : w.place > i ? w.place - i : i - w.place;
            int[] letters = {h.mind + h.sham, h.white, h.hangings, h.people, w.forms.get(w.form)[0], far};
            worth = worthOf(laws.get(held), letters);
        }
        return (int) Math.max(0, Math.min(99, worth));
    }

    private int to(World w) {
        int goal = 8;
        for (int i = w.houses.size() - 1; i >= 0; i--) {
            int minded = minded(w, i);
            if (minded > 0 && (goal == 8 || minded >= minded(w, goal))) {
                goal = i;
            }
        }
        return goal;
    }

    private void passDay(World w) {
        w.day++;
        for (int i = 0; i < w.houses.size(); i++) {
            House h = w.houses.get(i);
            if (i == w.place) {
                h.mind = Math.max(0, h.mind - 1);
            } else {
                h.mind += Integer.signum(h.told - h.mind);
            }
        }
        if (w.day % w.every == 0) {
            int goal = to(w);
            if (goal != w.place) {
                w.form = w.forms.get(w.form)[1];
            }
            w.place = goal;
            for (House h : w.houses) {
                h.piano = false;
            }
            w.log.add(new int[] {w.day, goal == 8 ? NONE : goal, w.form});
            if (w.log.size() > 60) {
                w.log.remove(0);
            }
        }
    }

    private World behind(World from, int days) {
        World w = from.copy();
        for (int i = 0; i < days; i++) {
            passDay(w);
        }
        return w;
    }

    private boolean isHouse(int house) {
        return now != null && house >= 0 && house < now.houses.size();
    }

    private boolean isForm(int form) {
        return now != null && form >= 0 && form < now.forms.size();
    }

    // ---- what is there

    int rule(int what) {
        if (now == null || what < 0 || what > 3) {
            return NONE;
        }
        return new int[] {now.every, now.place, now.form, now.coins}[what];
    }

    int house(int house, int what) {
        if (!isHouse(house) || what < 0 || what > 6) {
            throw new NoSuchElementException();
        }
        House h = now.houses.get(house);
        return new int[] {h.mind, h.white, h.hangings, h.people, h.sham, h.piano ? 1 : 0, minded(now, house)}[what];
    }

    int form(int form, int what) {
        return isForm(form) && (what == 0 || what == 1) ? now.forms.get(form)[what] : NONE;
    }

    boolean law(int law) {
        if (law < -1 || law >= laws.size()) {
            return false;
        }
        held = law;
        return true;
    }

    int status(int what) {
        return what >= 0 && what < 5 ? status[what] : NONE;
    }

    int log(int i, int what) {
        if (now == null || i < 0 || i >= now.log.size() || what < 0 || what > 2) {
            return HIDDEN;
        }
        return now.log.get(now.log.size() - 1 - i)[what];
    }

    int count(int what) {
        if (what < 0 || what > 11) {
            return HIDDEN;
        }
        int pianos = 0;
        for (int i = 0; isHouse(i); i++) {
            pianos += now.houses.get(i).piano ? 1 << i : 0;
        }
        return new int[] {now == null ? 0 : now.houses.size(), now == null ? 0 : now.forms.size(), laws.size(),
            tape.length(), held, now == null ? 0 : now.day, moods, seen.size(), was.size(), pianos,
            now == null ? 0 : now.log.size(), acts.size()}[what];
    }

    // ---- acts

    private void act() {
        acts.addLast(now.copy());
        if (acts.size() > 40) {
            acts.removeFirst();
        }
    }

    private boolean refuse(boolean... why) {
        for (int i = 0; i < why.length; i++) {
            if (why[i]) {
                status[i]++;
                return true;
            }
        }
        return false;
    }

    int sham(int house, int v) {
        House h = isHouse(house) ? now.houses.get(house) : new House();
        if (refuse(!isHouse(house), v < -9 || v > 9, h.sham == v)) {
            return HIDDEN;
        }
        act();
        h.sham = v;
        return v;
    }

    int hang(int house, int v) {
        House h = isHouse(house) ? now.houses.get(house) : new House();
        int cost = v > h.hangings ? v - h.hangings : 0;
        if (refuse(!isHouse(house), v < 0 || v > 9, h.hangings == v, now != null && cost > now.coins)) {
            return NONE;
        }
        act();
        h.hangings = v;
        return now.coins -= cost;
    }

    int whiten(int house) {
        House h = isHouse(house) ? now.houses.get(house) : new House();
        if (refuse(!isHouse(house), false, h.white == 9, now != null && now.coins < 2)) {
            return NONE;
        }
        act();
        h.white++;
        return now.coins -= 2;
    }

    int piano(int house) {
        House h = isHouse(house) ? now.houses.get(house) : new House();
        if (refuse(!isHouse(house), false, h.piano, now != null && now.coins < 3)) {
            return NONE;
        }
        act();
        h.piano = true;
        return now.coins -= 3;
    }

    int move(int house, int other) {
        boolean both = isHouse(house) && isHouse(other);
        House h = both ? now.houses.get(house) : new House();
        House o = both ? now.houses.get(other) : new House();
        if (refuse(!both, house == other, o.people == 9, h.people == 0)) {
            return NONE;
        }
        act();
        h.people--;
        return ++o.people;
    }

    int give(int n) {
        if (refuse(now == null, n < 1 || n > 50 || now != null && now.coins + n > 999)) {
            return NONE;
        }
        act();
        return now.coins += n;
    }

    int days(int n) {
        if (refuse(now == null, n < 1 || n > 60, false, false, now != null && now.day + n > 9999)) {
            return NONE;
        }
        for (int i = 0; i < n; i++) {
            act();
            passDay(now);
        }
        return now.place == 8 ? -2 : now.place;
    }

    boolean moods(int v) {
        if (v < 0 || v > 9 || v == moods) {
            return false;
        }
        moods = v;
        return true;
    }

    int years(int n, long seed) {
        if (now == null || n < 1 || n > 60 || now.day + n > 9999) {
            return NONE;
        }
        long[] x = {seed};
        int many = now.houses.size();
        for (int i = 0; i < n; i++) {
            act();
            if (draw(x, 10) < moods) {
                House h = now.houses.get(draw(x, many));
                h.mind = draw(x, 10);
            }
            House from = now.houses.get(draw(x, many));
            House to = now.houses.get(draw(x, many));
            if (from != to && from.people > 0 && to.people < 9) {
                from.people--;
                to.people++;
            }
            passDay(now);
        }
        return now.day;
    }

    private static int draw(long[] x, int j) {
        x[0] = x[0] * 6364136223846793005L + 1442695040888963407L;
        return (int) Long.remainderUnsigned(x[0] >>> 33, j);
    }

    int undo() {
        if (acts.isEmpty()) {
            return NONE;
        }
        now = acts.removeLast();
        return acts.size();
    }

    int image() {
        if (now == null) {
            return NONE;
        }
        picture = now.copy();
        return now.day;
    }

    int back() {
        if (picture == null) {
            return NONE;
        }
        now = picture.copy();
        acts.clear();
        return now.day;
    }

    // ---- apart

    int ahead(int n, int what) {
        if (now == null || n < 0 || n > 60 || what < 0 || what > 1) {
            return HIDDEN;
        }
        World w = behind(now, n);
        return what == 1 ? w.form : w.place == 8 ? NONE : w.place;
    }

    int soonest(int house) {
        if (!isHouse(house)) {
            return NONE;
        }
        World w = now.copy();
        int n = 0;
        while (w.place != house && n < 61) {
            passDay(w);
            n++;
        }
        return n > 60 ? NONE : n;
    }

    private int[] placesBehind(int n) {
        int[] times = new int[9];
        World w = now.copy();
        for (int i = 0; i < n; i++) {
            passDay(w);
            times[w.place]++;
        }
        return times;
    }

    int visits(int n) {
        if (now == null || n < 1 || n > 60) {
            return NONE;
        }
        int bits = 0;
        int[] times = placesBehind(n);
        for (int i = 0; i < 8; i++) {
            bits += times[i] > 0 ? 1 << i : 0;
        }
        return bits;
    }

    int empty(int n) {
        return now == null || n < 1 || n > 60 ? NONE : placesBehind(n)[8];
    }

    int goesTo() {
        if (now == null) {
            return HIDDEN;
        }
        return to(now) == 8 ? NONE : to(now);
    }

    /** By trial of all SHAMS of all houses, so for three houses at most; else by trial of each other one. */
    int least(int house, int what) {
        if (!isHouse(house) || what < 0 || what > 1) {
            return HIDDEN;
        }
        int[] best = {Integer.MAX_VALUE, 0};
        if (now.houses.size() <= 2) {
            tryShams(now.copy(), house, 0, 0, best);
        } else {
            tryLevels(house, best);
        }
        return best[0] == Integer.MAX_VALUE ? HIDDEN : best[what];
    }

    private void tryShams(World w, int house, int at, int sum, int[] best) {
        if (at == w.houses.size()) {
            int sham = w.houses.get(house).sham;
            if (to(w) == house && (sum < best[0] || sum == best[0] && sham < best[1])) {
                best[0] = sum;
                best[1] = sham;
            }
            return;
        }
        for (int s = -9; s <= 9; s++) {
            w.houses.get(at).sham = s;
            tryShams(w, house, at + 1, sum + Math.abs(s - now.houses.get(at).sham), best);
        }
    }

    private void tryLevels(int house, int[] best) {
        for (int s = 9; s >= -9; s--) {
            World w = now.copy();
            w.houses.get(house).sham = s;
            int sum = Math.abs(s - now.houses.get(house).sham);
            boolean can = minded(w, house) > 0;
            for (int i = 0; i < w.houses.size() && can; i++) {
                int had = now.houses.get(i).sham;
                boolean quiet = i == house;
                for (int far = 0; far <= 18 && !quiet; far++) {
                    for (int side = -1; side <= 1 && !quiet; side += 2) {
                        int then = had + far * side;
                        if (then >= -9 && then <= 9) {
                            w.houses.get(i).sham = then;
                            int gap = minded(w, house) - minded(w, i);
                            quiet = gap > 0 || gap == 0 && house < i;
                            sum += quiet ? far : 0;
                        }
                    }
                }
                can = quiet;
            }
            if (can && to(w) != house) {
                throw new IllegalStateException("the model is wrong");
            }
            if (can && sum <= best[0]) {
                best[0] = sum;
                best[1] = s;
            }
        }
    }

    int rid() {
        if (now == null || now.place == 8) {
            return NONE;
        }
        int had = now.houses.get(now.place).sham;
        for (int far = 0; far <= 18; far++) {
            for (int then : new int[] {had - far, had + far}) {
                World w = now.copy();
                w.houses.get(now.place).sham = then;
                if (then >= -9 && then <= 9 && to(w) != now.place) {
                    return far;
                }
            }
        }
        return NONE;
    }

    int white(int house) {
        for (int v = 0; isHouse(house) && v <= 9; v++) {
            World w = now.copy();
            w.houses.get(house).white = v;
            if (to(w) == house) {
                return v;
            }
        }
        return NONE;
    }

    private static int pick(List<Integer> all, int i) {
        return i == NONE ? all.size() : i < 0 || i >= all.size() ? NONE : all.get(i);
    }

    int treaties(int k, int i) {
        if (now == null || k < 1 || k > 3) {
            return NONE;
        }
        List<Integer> all = new ArrayList<>();
        for (int set = 0; set < 1 << now.houses.size(); set++) {
            World w = now.copy();
            int many = 0;
            for (int h = 0; h < 8; h++) {
                if ((set & 1 << h) != 0) {
                    many++;
                    w.houses.get(h).sham = -9;
                }
            }
            int goal = to(w);
            if (many == k && (goal == 8 || (set & 1 << goal) == 0)) {
                all.add(set);
            }
        }
        return pick(all, i);
    }

    int game(int one, int other, int x, int y, int what) {
        if (!isHouse(one) || !isHouse(other) || one == other || x < 0 || x > 6 || y < 0 || y > 6
                || what < 0 || what > 1) {
            return HIDDEN;
        }
        World w = now.copy();
        w.houses.get(one).sham = x - 3;
        w.houses.get(other).sham = y - 3;
        int asked = what == 0 ? one : other;
        int far = Math.abs((what == 0 ? x : y) - 3);
        return to(w) == asked ? -9 - far : -far;
    }

    int rests(int one, int other, int i) {
        if (!isHouse(one) || !isHouse(other) || one == other) {
            return NONE;
        }
        int[][] has = new int[49][];
        for (int p = 0; p < 49; p++) {
            has[p] = new int[] {game(one, other, p / 7, p % 7, 0), game(one, other, p / 7, p % 7, 1)};
        }
        List<Integer> all = new ArrayList<>();
        for (int p = 0; p < 49; p++) {
            boolean rests = true;
            for (int q = 0; q < 49; q++) {
                rests &= q % 7 != p % 7 || has[q][0] <= has[p][0];
                rests &= q / 7 != p / 7 || has[q][1] <= has[p][1];
            }
            if (rests) {
                all.add(p / 7 * 10 + p % 7);
            }
        }
        return pick(all, i);
    }

    int seen(int n, int house, boolean is) {
        if (!isHouse(house) || n < 1 || n > 40 || seen.size() == 10) {
            return NONE;
        }
        seen.add(new int[] {n, house, is ? 1 : 0});
        return seen.size();
    }

    private World supposed(int suspect, int g) {
        World w = first.copy();
        if (suspect < 9) {
            House h = w.houses.get(suspect);
            h.told = Math.min(9, h.told + g);
            h.mind = h.told;
        }
        return w;
    }

    private List<Integer> suspects(int g) {
        List<Integer> all = new ArrayList<>();
        for (int suspect = 0; suspect < 10; suspect++) {
            boolean fits = suspect == 9 || suspect < first.houses.size();
            for (int i = 0; fits && i < seen.size(); i++) {
                int[] s = seen.get(i);
                fits = behind(supposed(suspect, g), s[0]).place == s[1] == (s[2] == 1);
            }
            if (fits) {
                all.add(suspect);
            }
        }
        return all;
    }

    int who(int g, int i) {
        return now == null || g < 1 || g > 5 ? NONE : pick(suspects(g), i);
    }

    int best(int g) {
        if (now == null || g < 1 || g > 5 || suspects(g).isEmpty()) {
            return NONE;
        }
        List<World> walks = new ArrayList<>();
        for (int suspect : suspects(g)) {
            walks.add(supposed(suspect, g));
        }
        int look = NONE;
        int fewest = 99;
        for (int n = 1; n <= 40; n++) {
            int[] told = new int[9];
            int most = 0;
            for (World w : walks) {
                passDay(w);
                most = Math.max(most, ++told[w.place]);
            }
            if (most < fewest) {
                fewest = most;
                look = n;
            }
        }
        return look;
    }

    private int changed(int form, int k) {
        return k == 0 ? form : changed(now.forms.get(form)[1], k - 1);
    }

    int follows(int form, int k) {
        return !isForm(form) || k < 0 || k > 999 ? NONE : changed(form, k);
    }

    int ring(int form) {
        if (!isForm(form)) {
            return NONE;
        }
        Set<Integer> again = new TreeSet<>();
        for (int k = 10; k < 40; k++) {
            again.add(changed(form, k));
        }
        return again.size();
    }

    int was(int k, int form, boolean is) {
        if (!isForm(form) || k < 0 || k > 60 || was.size() == 10) {
            return NONE;
        }
        was.add(new int[] {k, form, is ? 1 : 0});
        return was.size();
    }

    int forms() {
        if (now == null) {
            return NONE;
        }
        int bits = (1 << now.forms.size()) - 1;
        for (int[] s : was) {
            for (int f = 0; f < now.forms.size(); f++) {
                if (changed(f, s[0]) == s[1] != (s[2] == 1)) {
                    bits &= ~(1 << f);
                }
            }
        }
        return bits;
    }

    int odds(int house, int chance) {
        if (now == null || house != NONE && !isHouse(house) || chance < 0 || chance > 100) {
            return NONE;
        }
        return (int) parts(now.copy(), 0, 1000000000L, house == NONE ? 8 : house, chance);
    }

    private long parts(World w, int at, long part, int goal, int chance) {
        if (at == w.houses.size()) {
            return to(w) == goal ? part : 0;
        }
        long more = part * chance / 100;
        World other = w.copy();
        House h = other.houses.get(at);
        h.mind = Math.min(9, h.mind + 1);
        return parts(other, at + 1, more, goal, chance) + parts(w, at + 1, part - more, goal, chance);
    }

    int shares(int house, int c) {
        if (!isHouse(house) || c < 0 || c > 999) {
            return NONE;
        }
        int all = 0;
        for (int i = 0; isHouse(i); i++) {
            all += minded(now, i);
        }
        return all == 0 ? 0 : c * minded(now, house) / all;
    }

    int most(int what) {
        if (now == null || what < 0 || what > 5) {
            return NONE;
        }
        int[] top = {1000, 1000, 1000};
        int[] answers = new int[6];
        for (int i = 0; i < now.houses.size(); i++) {
            House h = now.houses.get(i);
            int[] ranks = {h.mind + h.sham, -minded(now, i), -h.white};
            for (int k = 0; k < 3; k++) {
                if (ranks[k] < top[k]) {
                    top[k] = ranks[k];
                    answers[k] = i;
                }
            }
            answers[4] += h.people;
            answers[5] += h.people == 0 ? 1 << i : 0;
        }
        int at = now.log.size() - 1;
        while (at > 0 && now.log.get(at)[1] == now.log.get(at - 1)[1]) {
            answers[3]++;
            at--;
        }
        return answers[what];
    }

    int used(int house) {
        if (!isHouse(house)) {
            return NONE;
        }
        int days = 0;
        for (int mind = now.houses.get(house).mind; mind > 0; mind--) {
            days++;
        }
        return days;
    }

    int near(int house) {
        int bits = 0;
        for (int i = 0; isHouse(i); i++) {
            bits += Math.abs(i - house) == 1 ? 1 << i : 0;
        }
        return isHouse(house) ? bits : NONE;
    }
}
