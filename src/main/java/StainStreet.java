import java.util.NoSuchElementException;

/** A street of houses and the stain that goes to where it is most minded; see the project's document. */
public final class StainStreet {
    public static final int NONE = -1;
    public static final int HIDDEN = -1000000;

    private static final int MOST_BYTES = 240;
    private static final int MOST_HOUSES = 8;
    private static final int MOST_FORMS = 6;
    private static final int MOST_LAWS = 4;
    private static final int MOST_CLAUSES = 64;
    private static final int MOST_NESTED = 6;
    private static final int MOST_NUMBER = 1000000;
    private static final int MOST_MINDED = 99;
    private static final int MOST_COINS = 999;
    private static final int MOST_GIVEN = 50;
    private static final int MOST_AHEAD = 60;
    private static final int MOST_NOTES = 10;
    private static final int MOST_SEEN_DAYS = 40;
    private static final int MOST_CHANGES = 999;
    private static final int MOST_SHARED = 999;
    private static final int NINE = 9;
    private static final int LAST_DAY = 9999;
    private static final int LOG_SHOWN = 60;
    // The shown rows and one for each act that can be undone: undoing must bring the oldest rows back.
    private static final int LOG_KEPT = 128;
    private static final int ACTS_KEPT = 40;

    private static final int END = -1;
    private static final int BLANK = 32;

    private static final int NO_SUCH = 0;
    private static final int OUT_OF_BOUNDS = 1;
    private static final int IS_SO = 2;
    private static final int TOO_FEW = 3;
    private static final int TOO_LATE = 4;
    private static final int STATUSES = 5;

    private static final int NOWHERE = 8;
    private static final int NOBODY = 9;
    private static final int SHAMS = 19;
    private static final int GAME_SHAMS = 7;
    private static final int GAME_MIDDLE = 3;
    private static final int WALK_ROW = MOST_SEEN_DAYS + 1;
    private static final int TABLE_SIZE = 400;
    private static final int ALL_PARTS = 1000000000;

    private static final long DRAW_FACTOR = 6364136223846793005L;
    private static final long DRAW_ADDEND = 1442695040888963407L;

    private static final String LAW_LETTERS = "mwgptd";

    // The items of s, of h and of f, one behind the other.
    private static final String ITEM_LETTERS = "dhfcmwgptn";
    private static final int[] ITEM_LOWEST = {1, 0, 0, 0, 0, 0, 0, 0, 1, 0};
    private static final int[] ITEM_HIGHEST = {9, 8, 5, 99, 9, 9, 9, 9, 9, 5};
    private static final int[] ITEM_USUAL = {3, 8, 0, 20, 3, 0, 0, 2, 3, 0};
    private static final int HOUSE_ITEMS = 4;
    private static final int FORM_ITEMS = 8;
    private static final int ALL_ITEMS = 10;
    private static final int HOUSE_SLOTS = 4;
    private static final int FORM_SLOTS = 36;
    private static final int ALL_SLOTS = 48;

    private final Tape tape = new Tape();
    private final StreetReader streetReader = new StreetReader(tape);
    private final LawBook book = new LawBook();
    private final LawReader lawReader = new LawReader(tape, book.next());
    private Street told = new Street();
    private Street spare = new Street();
    private final State now = new State(told);
    private final State apart = new State(told);
    private final Log log = new Log();
    private final Past past = new Past(told);
    private final Image image = new Image(told);
    private final Notes seen = new Notes();
    private final Notes was = new Notes();
    private final int[] status = new int[STATUSES];
    private int moods;
    private long drawn;
    private final int[] worths = new int[MOST_HOUSES];
    private final int[] otherWorths = new int[MOST_HOUSES];
    // Room for one call's reckoning, made once as no call may make rows of its own.
    private final int[] table = new int[TABLE_SIZE];

    public StainStreet() {
    }

    // ---- texts

    public int feed(int a, int b, int c, int d, int e) {
        int more = Tape.signsIn(a) + Tape.signsIn(b) + Tape.signsIn(c) + Tape.signsIn(d) + Tape.signsIn(e);
        if (tape.length + more > MOST_BYTES) {
            return NONE;
        }
        tape.add(a);
        tape.add(b);
        tape.add(c);
        tape.add(d);
        tape.add(e);
        return tape.length;
    }

    public boolean end(int n) {
        if (n < 0 || n > tape.length) {
            return false;
        }
        tape.length = n;
        return true;
    }

    public int fault(int sort) {
        if (sort == 0) {
            return streetReader.read(spare);
        }
        return sort == 1 ? lawReader.read(book.next()) : -2;
    }

    public int text(int sort) {
        if (sort == 0) {
            return streetReader.read(spare) == NONE ? beginStreet() : NONE;
        }
        if (sort != 1 || book.size >= MOST_LAWS || lawReader.read(book.next()) != NONE) {
            return NONE;
        }
        tape.length = 0;
        return book.take();
    }

    private int beginStreet() {
        Street read = spare;
        spare = told;
        told = read;
        tape.length = 0;
        now.begin(told);
        past.forget();
        image.isKept = false;
        seen.size = 0;
        was.size = 0;
        return told.houses;
    }

    // ---- what is there

    public int rule(int what) {
        if (!isStreet()) {
            return NONE;
        }
        switch (what) {
            case 0:
                return told.daysBetween();
            case 1:
                return now.place == NONE ? NOWHERE : now.place;
            case 2:
                return now.form;
            case 3:
                return now.coins;
            default:
                return NONE;
        }
    }

    public int house(int house, int what) throws NoSuchElementException {
        if (!isHouse(house) || what < 0 || what > 6) {
            throw new NoSuchElementException();
        }
        switch (what) {
            case 0:
                return now.minds[house];
            case 1:
                return now.whites[house];
            case 2:
                return now.hangings[house];
            case 3:
                return now.people[house];
            case 4:
                return now.shams[house];
            case 5:
                return now.hasPiano(house) ? 1 : 0;
            default:
                return now.minded(house, book.holding());
        }
    }

    public int form(int form, int what) {
        if (!isForm(form) || what < 0 || what > 1) {
            return NONE;
        }
        return what == 0 ? told.sizeOf(form) : told.following(form);
    }

    public boolean law(int law) {
        if (law < NONE || law >= book.size) {
            return false;
        }
        book.held = law;
        return true;
    }

    public int status(int what) {
        return what < 0 || what >= STATUSES ? NONE : status[what];
    }

    public int log(int i, int what) {
        if (i < 0 || i >= shownLog() || what < 0 || what > 2) {
            return HIDDEN;
        }
        int row = now.logged - 1 - i;
        if (what == 0) {
            return log.dayAt(row);
        }
        return what == 1 ? log.placeAt(row) : log.formAt(row);
    }

    public int count(int what) {
        switch (what) {
            case 0:
                return told.houses;
            case 1:
                return told.forms;
            case 2:
                return book.size;
            case 3:
                return tape.length;
            case 4:
                return book.held;
            case 5:
                return now.day;
            case 6:
                return moods;
            case 7:
                return seen.size;
            case 8:
                return was.size;
            case 9:
                return now.pianos;
            case 10:
                return shownLog();
            case 11:
                return past.size;
            default:
                return HIDDEN;
        }
    }

    private boolean isStreet() {
        return told.houses > 0;
    }

    private boolean isHouse(int house) {
        return house >= 0 && house < told.houses && house < MOST_HOUSES;
    }

    private boolean isForm(int form) {
        return form >= 0 && form < told.forms && form < MOST_FORMS;
    }

    private int shownLog() {
        return Math.min(now.logged, LOG_SHOWN);
    }

    private int entry(int i) {
        return i >= 0 && i < TABLE_SIZE ? table[i] : 0;
    }

    private void enter(int i, int value) {
        if (i >= 0 && i < TABLE_SIZE) {
            table[i] = value;
        }
    }

    // ---- acts

    private int refused(int why, int answer) {
        if (why >= 0 && why < STATUSES) {
            status[why]++;
        }
        return answer;
    }

    public int sham(int house, int v) {
        if (!isHouse(house)) {
            return refused(NO_SUCH, HIDDEN);
        }
        if (v < -NINE || v > NINE) {
            return refused(OUT_OF_BOUNDS, HIDDEN);
        }
        if (now.shams[house] == v) {
            return refused(IS_SO, HIDDEN);
        }
        past.keep(now);
        now.shams[house] = v;
        return v;
    }

    public int hang(int house, int v) {
        if (!isHouse(house)) {
            return refused(NO_SUCH, NONE);
        }
        if (v < 0 || v > NINE) {
            return refused(OUT_OF_BOUNDS, NONE);
        }
        if (now.hangings[house] == v) {
            return refused(IS_SO, NONE);
        }
        int cost = Math.max(0, v - now.hangings[house]);
        if (now.coins < cost) {
            return refused(TOO_FEW, NONE);
        }
        past.keep(now);
        now.hangings[house] = v;
        now.coins -= cost;
        return now.coins;
    }

    public int whiten(int house) {
        if (!isHouse(house)) {
            return refused(NO_SUCH, NONE);
        }
        if (now.whites[house] >= NINE) {
            return refused(IS_SO, NONE);
        }
        if (now.coins < 2) {
            return refused(TOO_FEW, NONE);
        }
        past.keep(now);
        now.whites[house]++;
        now.coins -= 2;
        return now.coins;
    }

    public int piano(int house) {
        if (!isHouse(house)) {
            return refused(NO_SUCH, NONE);
        }
        if (now.hasPiano(house)) {
            return refused(IS_SO, NONE);
        }
        if (now.coins < 3) {
            return refused(TOO_FEW, NONE);
        }
        past.keep(now);
        now.pianos |= 1 << house;
        now.coins -= 3;
        return now.coins;
    }

    public int move(int house, int other) {
        if (!isHouse(house) || !isHouse(other)) {
            return refused(NO_SUCH, NONE);
        }
        if (house == other) {
            return refused(OUT_OF_BOUNDS, NONE);
        }
        if (now.people[other] >= NINE) {
            return refused(IS_SO, NONE);
        }
        if (now.people[house] < 1) {
            return refused(TOO_FEW, NONE);
        }
        past.keep(now);
        now.people[house]--;
        now.people[other]++;
        return now.people[other];
    }

    public int give(int n) {
        if (!isStreet()) {
            return refused(NO_SUCH, NONE);
        }
        if (n < 1 || n > MOST_GIVEN || now.coins + n > MOST_COINS) {
            return refused(OUT_OF_BOUNDS, NONE);
        }
        past.keep(now);
        now.coins += n;
        return now.coins;
    }

    public int days(int n) {
        if (!isStreet()) {
            return refused(NO_SUCH, NONE);
        }
        if (n < 1 || n > MOST_AHEAD) {
            return refused(OUT_OF_BOUNDS, NONE);
        }
        if (now.day + n > LAST_DAY) {
            return refused(TOO_LATE, NONE);
        }
        for (int i = 0; i < n; i++) {
            past.keep(now);
            liveDay();
        }
        return now.place == NONE ? -2 : now.place;
    }

    private void liveDay() {
        if (now.passDay(book.holding())) {
            log.write(now);
        }
    }

    public boolean moods(int v) {
        if (v < 0 || v > NINE || v == moods) {
            return false;
        }
        moods = v;
        return true;
    }

    public int years(int n, long seed) {
        if (!isStreet() || n < 1 || n > MOST_AHEAD || now.day + n > LAST_DAY) {
            return NONE;
        }
        drawn = seed;
        for (int i = 0; i < n; i++) {
            past.keep(now);
            stir();
            liveDay();
        }
        return now.day;
    }

    private void stir() {
        int houses = told.houses;
        if (draw(10) < moods) {
            int moody = draw(houses);
            int mind = draw(10);
            if (isHouse(moody)) {
                now.minds[moody] = mind;
            }
        }
        int from = draw(houses);
        int to = draw(houses);
        if (isHouse(from) && isHouse(to) && from != to && now.people[from] > 0 && now.people[to] < NINE) {
            now.people[from]--;
            now.people[to]++;
        }
    }

    private int draw(int below) {
        drawn = drawn * DRAW_FACTOR + DRAW_ADDEND;
        return below < 1 ? 0 : (int) ((drawn >>> 33) % below);
    }

    public int undo() {
        return past.takeBack(now) ? past.size : NONE;
    }

    public int image() {
        if (!isStreet()) {
            return NONE;
        }
        image.keep(now, log);
        return now.day;
    }

    public int back() {
        if (!image.isKept) {
            return NONE;
        }
        image.bringBack(now, log);
        past.forget();
        return now.day;
    }

    // ---- days ahead

    public int ahead(int n, int what) {
        if (!isStreet() || n < 0 || n > MOST_AHEAD || what < 0 || what > 1) {
            return HIDDEN;
        }
        apart.copyFrom(now);
        for (int i = 0; i < n; i++) {
            apart.passDay(book.holding());
        }
        return what == 0 ? apart.place : apart.form;
    }

    public int soonest(int house) {
        if (!isHouse(house)) {
            return NONE;
        }
        apart.copyFrom(now);
        for (int day = 0; day <= MOST_AHEAD; day++) {
            if (apart.place == house) {
                return day;
            }
            apart.passDay(book.holding());
        }
        return NONE;
    }

    public int visits(int n) {
        if (!isStreet() || n < 1 || n > MOST_AHEAD) {
            return NONE;
        }
        int visited = 0;
        apart.copyFrom(now);
        for (int i = 0; i < n; i++) {
            apart.passDay(book.holding());
            visited |= bitOf(apart.place);
        }
        return visited;
    }

    public int empty(int n) {
        if (!isStreet() || n < 1 || n > MOST_AHEAD) {
            return NONE;
        }
        int days = 0;
        apart.copyFrom(now);
        for (int i = 0; i < n; i++) {
            apart.passDay(book.holding());
            if (apart.place == NONE) {
                days++;
            }
        }
        return days;
    }

    public int goesTo() {
        return isStreet() ? now.goal(book.holding()) : HIDDEN;
    }

    private static int bitOf(int place) {
        return place == NONE ? 0 : 1 << place;
    }

    // ---- the least changes

    public int least(int house, int what) {
        if (!isHouse(house) || what < 0 || what > 1) {
            return HIDDEN;
        }
        fillShamTable();
        int fewest = NONE;
        int shamThen = 0;
        for (int sham = -NINE; sham <= NINE; sham++) {
            int shamming = shammingFor(house, sham);
            if (shamming != NONE && (fewest == NONE || shamming < fewest)) {
                fewest = shamming;
                shamThen = sham;
            }
        }
        if (fewest == NONE) {
            return HIDDEN;
        }
        return what == 0 ? fewest : shamThen;
    }

    // How much a house is minded hangs on no SHAM but its own, so one row for each house tells all.
    private void fillShamTable() {
        apart.copyFrom(now);
        for (int h = 0; h < told.houseCount(); h++) {
            for (int s = 0; s < SHAMS; s++) {
                apart.shams[h] = s - NINE;
                enter(h * SHAMS + s, apart.minded(h, book.holding()));
            }
        }
    }

    private int shammingFor(int house, int sham) {
        int minded = entry(house * SHAMS + sham + NINE);
        if (minded == 0) {
            return NONE;
        }
        int sum = Math.abs(sham - now.shams[house]);
        for (int h = 0; h < told.houseCount(); h++) {
            if (h != house) {
                // Of several it goes to the lowest, so those ahead must be minded less.
                int steps = stepsToAtMost(h, h < house ? minded - 1 : minded);
                if (steps == NONE) {
                    return NONE;
                }
                sum += steps;
            }
        }
        return sum;
    }

    private int stepsToAtMost(int house, int minded) {
        int fewest = NONE;
        for (int s = 0; s < SHAMS; s++) {
            int steps = Math.abs(s - NINE - now.shams[house]);
            if (entry(house * SHAMS + s) <= minded && (fewest == NONE || steps < fewest)) {
                fewest = steps;
            }
        }
        return fewest;
    }

    public int rid() {
        int house = now.place;
        if (!isHouse(house)) {
            return NONE;
        }
        int fewest = NONE;
        apart.copyFrom(now);
        for (int sham = -NINE; sham <= NINE; sham++) {
            apart.shams[house] = sham;
            int steps = Math.abs(sham - now.shams[house]);
            if ((fewest == NONE || steps < fewest) && apart.goal(book.holding()) != house) {
                fewest = steps;
            }
        }
        return fewest;
    }

    public int white(int house) {
        if (!isHouse(house)) {
            return NONE;
        }
        apart.copyFrom(now);
        for (int white = 0; white <= NINE; white++) {
            apart.whites[house] = white;
            if (apart.goal(book.holding()) == house) {
                return white;
            }
        }
        return NONE;
    }

    // ---- treaties and games

    public int treaties(int k, int i) {
        if (!isStreet() || k < 1 || k > 3) {
            return NONE;
        }
        fillTreatyWorths();
        int found = 0;
        for (int set = 1; set < 1 << told.houseCount(); set++) {
            if (Integer.bitCount(set) == k && (bitOf(goalOfMixed(set)) & set) == 0) {
                if (found == i) {
                    return set;
                }
                found++;
            }
        }
        return i == NONE ? found : NONE;
    }

    private void fillTreatyWorths() {
        apart.copyFrom(now);
        for (int h = 0; h < told.houseCount(); h++) {
            apart.shams[h] = -NINE;
            worths[h] = now.minded(h, book.holding());
            otherWorths[h] = apart.minded(h, book.holding());
        }
    }

    /** Where it would go, if the houses of the set were minded by the other row. */
    private int goalOfMixed(int set) {
        int goal = NONE;
        int top = 0;
        for (int h = 0; h < told.houseCount(); h++) {
            int minded = (set >> h & 1) == 0 ? worths[h] : otherWorths[h];
            if (minded > top) {
                top = minded;
                goal = h;
            }
        }
        return goal;
    }

    public int game(int one, int other, int x, int y, int what) {
        if (!isHouse(one) || !isHouse(other) || one == other || what < 0 || what > 1) {
            return HIDDEN;
        }
        if (x < 0 || x >= GAME_SHAMS || y < 0 || y >= GAME_SHAMS) {
            return HIDDEN;
        }
        apart.copyFrom(now);
        int goal = goalOfGame(one, other, x, y);
        return what == 0 ? gain(goal == one, x) : gain(goal == other, y);
    }

    private int goalOfGame(int one, int other, int x, int y) {
        apart.shams[one] = x - GAME_MIDDLE;
        apart.shams[other] = y - GAME_MIDDLE;
        return apart.goal(book.holding());
    }

    private static int gain(boolean comes, int shammed) {
        return (comes ? -9 : 0) - Math.abs(shammed - GAME_MIDDLE);
    }

    public int rests(int one, int other, int i) {
        if (!isHouse(one) || !isHouse(other) || one == other) {
            return NONE;
        }
        fillGameTable(one, other);
        int found = 0;
        for (int x = 0; x < GAME_SHAMS; x++) {
            for (int y = 0; y < GAME_SHAMS; y++) {
                if (isBestForOne(one, x, y) && isBestForOther(other, x, y)) {
                    if (found == i) {
                        return 10 * x + y;
                    }
                    found++;
                }
            }
        }
        return i == NONE ? found : NONE;
    }

    private void fillGameTable(int one, int other) {
        apart.copyFrom(now);
        for (int x = 0; x < GAME_SHAMS; x++) {
            for (int y = 0; y < GAME_SHAMS; y++) {
                enter(x * GAME_SHAMS + y, goalOfGame(one, other, x, y));
            }
        }
    }

    private boolean isBestForOne(int one, int x, int y) {
        int has = gain(entry(x * GAME_SHAMS + y) == one, x);
        for (int u = 0; u < GAME_SHAMS; u++) {
            if (gain(entry(u * GAME_SHAMS + y) == one, u) > has) {
                return false;
            }
        }
        return true;
    }

    private boolean isBestForOther(int other, int x, int y) {
        int has = gain(entry(x * GAME_SHAMS + y) == other, y);
        for (int u = 0; u < GAME_SHAMS; u++) {
            if (gain(entry(x * GAME_SHAMS + u) == other, u) > has) {
                return false;
            }
        }
        return true;
    }

    // ---- who minded more

    public int seen(int n, int house, boolean is) {
        if (!isHouse(house) || n < 1 || n > MOST_SEEN_DAYS) {
            return NONE;
        }
        return seen.add(n, house, is) ? seen.size : NONE;
    }

    public int who(int g, int i) {
        if (!isStreet() || g < 1 || g > 5) {
            return NONE;
        }
        fillWalks(g);
        int fitting = fitting();
        int found = 0;
        for (int c = 0; c <= told.houseCount(); c++) {
            if ((fitting >> c & 1) != 0) {
                if (found == i) {
                    return c == told.houseCount() ? NOBODY : c;
                }
                found++;
            }
        }
        return i == NONE ? found : NONE;
    }

    public int best(int g) {
        if (!isStreet() || g < 1 || g > 5) {
            return NONE;
        }
        fillWalks(g);
        int fitting = fitting();
        if (fitting == 0) {
            return NONE;
        }
        int look = NONE;
        int fewest = 0;
        for (int n = 1; n <= MOST_SEEN_DAYS; n++) {
            int agreeing = mostAgreeing(n, fitting);
            if (look == NONE || agreeing < fewest) {
                fewest = agreeing;
                look = n;
            }
        }
        return look;
    }

    /** A row for each house that may have minded more, and one behind them for none of these. */
    private void fillWalks(int more) {
        for (int c = 0; c <= told.houseCount(); c++) {
            apart.begin(told);
            if (c < told.houseCount()) {
                apart.mindMore(c, more);
            }
            for (int n = 1; n <= MOST_SEEN_DAYS; n++) {
                apart.passDay(book.holding());
                enter(c * WALK_ROW + n, apart.place);
            }
        }
    }

    private int fitting() {
        int fitting = 0;
        for (int c = 0; c <= told.houseCount(); c++) {
            if (fitsSeen(c)) {
                fitting |= 1 << c;
            }
        }
        return fitting;
    }

    private boolean fitsSeen(int c) {
        for (int i = 0; i < seen.size && i < MOST_NOTES; i++) {
            boolean there = entry(c * WALK_ROW + seen.whens[i]) == seen.whats[i];
            if (there != seen.truths[i]) {
                return false;
            }
        }
        return true;
    }

    private int mostAgreeing(int n, int fitting) {
        int most = 0;
        for (int place = NONE; place < told.houseCount(); place++) {
            int telling = 0;
            for (int c = 0; c <= told.houseCount(); c++) {
                if ((fitting >> c & 1) != 0 && entry(c * WALK_ROW + n) == place) {
                    telling++;
                }
            }
            most = Math.max(most, telling);
        }
        return most;
    }

    // ---- forms

    public int follows(int form, int k) {
        if (!isForm(form) || k < 0 || k > MOST_CHANGES) {
            return NONE;
        }
        return told.changed(form, k);
    }

    public int ring(int form) {
        if (!isForm(form)) {
            return NONE;
        }
        // Behind as many changes as there are forms it is surely in the ring.
        int first = told.changed(form, told.forms);
        int next = told.following(first);
        int length = 1;
        for (int i = 0; i < told.forms && next != first; i++) {
            next = told.following(next);
            length++;
        }
        return length;
    }

    public int was(int k, int form, boolean is) {
        if (!isForm(form) || k < 0 || k > MOST_AHEAD) {
            return NONE;
        }
        return was.add(k, form, is) ? was.size : NONE;
    }

    public int forms() {
        if (!isStreet()) {
            return NONE;
        }
        int fitting = 0;
        for (int form = 0; form < told.forms; form++) {
            if (fitsWas(form)) {
                fitting |= 1 << form;
            }
        }
        return fitting;
    }

    private boolean fitsWas(int form) {
        for (int i = 0; i < was.size && i < MOST_NOTES; i++) {
            boolean there = told.changed(form, was.whens[i]) == was.whats[i];
            if (there != was.truths[i]) {
                return false;
            }
        }
        return true;
    }

    // ---- odds, shares and the like

    public int odds(int house, int chance) {
        if (!isStreet() || house != NONE && !isHouse(house) || chance < 0 || chance > 100) {
            return NONE;
        }
        fillOddsWorths();
        fillParts(chance);
        int parts = 0;
        for (int set = 0; set < 1 << told.houseCount(); set++) {
            if (goalOfMixed(set) == house) {
                parts += entry(set);
            }
        }
        return parts;
    }

    private void fillOddsWorths() {
        apart.copyFrom(now);
        for (int h = 0; h < told.houseCount(); h++) {
            apart.minds[h] = Math.min(NINE, now.minds[h] + 1);
            worths[h] = now.minded(h, book.holding());
            otherWorths[h] = apart.minded(h, book.holding());
        }
    }

    /** The parts for each set of houses in which MIND is one more. */
    private void fillParts(int chance) {
        enter(0, ALL_PARTS);
        for (int h = 0; h < told.houseCount(); h++) {
            for (int set = 0; set < 1 << h; set++) {
                int part = entry(set);
                int more = (int) ((long) part * chance / 100);
                enter(set | 1 << h, more);
                enter(set, part - more);
            }
        }
    }

    public int shares(int house, int c) {
        if (!isHouse(house) || c < 0 || c > MOST_SHARED) {
            return NONE;
        }
        int all = 0;
        for (int h = 0; h < told.houseCount(); h++) {
            all += now.minded(h, book.holding());
        }
        return all == 0 ? 0 : c * now.minded(house, book.holding()) / all;
    }

    public int most(int what) {
        if (!isStreet()) {
            return NONE;
        }
        switch (what) {
            case 0:
                return calmest();
            case 1:
                // Where nobody minds, all mind alike, and the first is the lowest.
                return Math.max(0, now.goal(book.holding()));
            case 2:
                return whitest();
            case 3:
                return backs();
            case 4:
                return crowd();
            case 5:
                return lonely();
            default:
                return NONE;
        }
    }

    private int calmest() {
        int calmest = 0;
        for (int h = 1; h < told.houseCount(); h++) {
            if (now.minds[h] + now.shams[h] < now.minds[calmest] + now.shams[calmest]) {
                calmest = h;
            }
        }
        return calmest;
    }

    private int whitest() {
        int whitest = 0;
        for (int h = 1; h < told.houseCount(); h++) {
            if (now.whites[h] > now.whites[whitest]) {
                whitest = h;
            }
        }
        return whitest;
    }

    private int backs() {
        int pairs = shownLog() - 1;
        int backs = 0;
        for (int i = 0; i < pairs; i++) {
            int row = now.logged - 1 - i;
            if (log.placeAt(row) != log.placeAt(row - 1)) {
                break;
            }
            backs++;
        }
        return backs;
    }

    private int crowd() {
        int crowd = 0;
        for (int h = 0; h < told.houseCount(); h++) {
            crowd += now.people[h];
        }
        return crowd;
    }

    private int lonely() {
        int lonely = 0;
        for (int h = 0; h < told.houseCount(); h++) {
            if (now.people[h] == 0) {
                lonely |= 1 << h;
            }
        }
        return lonely;
    }

    public int used(int house) {
        // Each day there takes one away.
        return isHouse(house) ? now.minds[house] : NONE;
    }

    public int near(int house) {
        if (!isHouse(house)) {
            return NONE;
        }
        int above = isHouse(house + 1) ? 1 << house + 1 : 0;
        int below = isHouse(house - 1) ? 1 << house - 1 : 0;
        return above | below;
    }

    // ---- the classes inside

    /** The bytes that were fed, with a head that reads them. */
    private static final class Tape {
        private final int[] bytes = new int[MOST_BYTES];
        private int length;
        private int head;
        private int number;

        static int signsIn(int word) {
            int signs = 0;
            for (int shift = 24; shift >= 0; shift -= 8) {
                if ((word >>> shift & 255) != 0) {
                    signs++;
                }
            }
            return signs;
        }

        void add(int word) {
            for (int shift = 24; shift >= 0; shift -= 8) {
                int sign = word >>> shift & 255;
                if (sign != 0 && length < MOST_BYTES) {
                    bytes[length] = sign;
                    length++;
                }
            }
        }

        /** Goes on to what is no blank and tells it. */
        int sign() {
            while (head < length && head < MOST_BYTES && bytes[head] == BLANK) {
                head++;
            }
            return head >= 0 && head < length && head < MOST_BYTES ? bytes[head] : END;
        }

        /** Reads the number on which the head is; false: the head is where it is wrong. */
        boolean readNumber(int mostDigits) {
            number = 0;
            int digits = 0;
            while (head < length && head < MOST_BYTES && bytes[head] >= '0' && bytes[head] <= '9') {
                if (digits == mostDigits) {
                    return false;
                }
                number = number * 10 + bytes[head] - '0';
                digits++;
                head++;
            }
            return digits > 0;
        }
    }

    /** A street as told. */
    private static final class Street {
        private int houses;
        private int forms;
        private boolean hasRules;
        private final int[] slots = new int[ALL_SLOTS];

        /** The rows for houses have no more places, so no loop over houses goes further. */
        int houseCount() {
            return Math.min(houses, MOST_HOUSES);
        }

        void clear() {
            houses = 0;
            forms = 0;
            hasRules = false;
            setUsual(0, HOUSE_ITEMS, 0);
        }

        void setUsual(int firstItem, int lastItem, int slot) {
            for (int item = firstItem; item < lastItem && item < ALL_ITEMS; item++) {
                put(slot + item - firstItem, ITEM_USUAL[item]);
            }
        }

        void put(int slot, int value) {
            if (slot >= 0 && slot < ALL_SLOTS) {
                slots[slot] = value;
            }
        }

        private int told(int slot) {
            return slot >= 0 && slot < ALL_SLOTS ? slots[slot] : 0;
        }

        int daysBetween() {
            return told(0);
        }

        int firstHouse() {
            return told(1);
        }

        int firstForm() {
            return told(2);
        }

        int firstCoins() {
            return told(3);
        }

        int ofHouse(int house, int item) {
            return told(HOUSE_SLOTS + 4 * house + item);
        }

        int sizeOf(int form) {
            return told(FORM_SLOTS + 2 * form);
        }

        int following(int form) {
            return told(FORM_SLOTS + 2 * form + 1);
        }

        int changed(int form, int times) {
            int then = form;
            for (int i = 0; i < times; i++) {
                then = following(then);
            }
            return then;
        }

        boolean isWhole() {
            if (houses < 2 || forms < 1 || firstForm() >= forms) {
                return false;
            }
            if (firstHouse() != NOWHERE && firstHouse() >= houses) {
                return false;
            }
            for (int form = 0; form < forms; form++) {
                if (following(form) >= forms) {
                    return false;
                }
            }
            return true;
        }
    }

    /** Reads the tape as a street. */
    private static final class StreetReader {
        private final Tape tape;

        StreetReader(Tape tape) {
            this.tape = tape;
        }

        /** The fault, or NONE and the street is as told. */
        int read(Street street) {
            street.clear();
            tape.head = 0;
            for (int clauses = 0; clauses <= MOST_BYTES; clauses++) {
                if (!readClause(street)) {
                    return tape.head;
                }
                if (tape.sign() == END) {
                    return street.isWhole() ? NONE : tape.head;
                }
                tape.head++;
            }
            return tape.head;
        }

        private boolean readClause(Street street) {
            int sign = tape.sign();
            if (sign == 's' && !street.hasRules) {
                street.hasRules = true;
                return readItems(street, 0, HOUSE_ITEMS, 0);
            }
            if (sign == 'h' && street.houses < MOST_HOUSES) {
                street.houses++;
                return readItems(street, HOUSE_ITEMS, FORM_ITEMS, HOUSE_SLOTS + 4 * (street.houses - 1));
            }
            if (sign == 'f' && street.forms < MOST_FORMS) {
                street.forms++;
                return readItems(street, FORM_ITEMS, ALL_ITEMS, FORM_SLOTS + 2 * (street.forms - 1));
            }
            return false;
        }

        /** Reads all behind a clause's letter, up to the ; or the end. */
        private boolean readItems(Street street, int firstItem, int lastItem, int slot) {
            street.setUsual(firstItem, lastItem, slot);
            tape.head++;
            int there = 0;
            for (int i = firstItem; i <= lastItem; i++) {
                int sign = tape.sign();
                if (sign == END || sign == ';') {
                    return true;
                }
                int item = itemOf(sign, firstItem, lastItem);
                if (item == NONE || (there >> item & 1) != 0) {
                    return false;
                }
                there |= 1 << item;
                tape.head++;
                if (!readBounded(item)) {
                    return false;
                }
                street.put(slot + item - firstItem, tape.number);
            }
            return false;
        }

        private boolean readBounded(int item) {
            if (item < 0 || item >= ALL_ITEMS || tape.sign() == END || !tape.readNumber(2)) {
                return false;
            }
            if (tape.number < ITEM_LOWEST[item] || tape.number > ITEM_HIGHEST[item]) {
                tape.head--;
                return false;
            }
            return true;
        }

        private static int itemOf(int sign, int firstItem, int lastItem) {
            for (int item = firstItem; item < lastItem && item < ALL_ITEMS; item++) {
                if (ITEM_LETTERS.charAt(item) == sign) {
                    return item;
                }
            }
            return NONE;
        }
    }

    /**
     * A law, its sums and conditions with each sign behind what it joins: a number as itself, the letters
     * as -1 .. -6, any other sign as its own number below 0.
     */
    private static final class Law {
        private static final int LETTERS = 6;
        private static final int MOST_STACKED = 48;
        private int size;
        private int clauses;
        private final int[] codes = new int[MOST_BYTES];
        private final int[] conditionAt = new int[MOST_CLAUSES];
        private final int[] sumAt = new int[MOST_CLAUSES];
        private final int[] letters = new int[LETTERS];
        private final int[] stack = new int[MOST_STACKED];

        void clear() {
            size = 0;
            clauses = 0;
        }

        void openClause() {
            if (clauses < MOST_CLAUSES) {
                conditionAt[clauses] = size;
                sumAt[clauses] = size;
                clauses++;
            }
        }

        void closeCondition() {
            if (clauses > 0 && clauses <= MOST_CLAUSES) {
                sumAt[clauses - 1] = size;
            }
        }

        void add(int code) {
            if (size < MOST_BYTES) {
                codes[size] = code;
                size++;
            }
        }

        int worth(int m, int w, int g, int p, int t, int d) {
            letters[0] = m;
            letters[1] = w;
            letters[2] = g;
            letters[3] = p;
            letters[4] = t;
            letters[5] = d;
            for (int c = 0; c < clauses && c < MOST_CLAUSES; c++) {
                int condition = conditionAt[c];
                int sum = sumAt[c];
                if (condition == sum || reckon(condition, sum) != 0) {
                    return reckon(sum, c + 1 < clauses && c + 1 < MOST_CLAUSES ? conditionAt[c + 1] : size);
                }
            }
            return 0;
        }

        private int reckon(int from, int to) {
            int top = 0;
            for (int at = Math.max(0, from); at < to && at < MOST_BYTES; at++) {
                int code = codes[at];
                if (code >= -LETTERS) {
                    if (top < MOST_STACKED) {
                        stack[top] = code >= 0 ? code : letters[-1 - code];
                        top++;
                    }
                } else if (code == -'!') {
                    if (top > 0) {
                        stack[top - 1] = 1 - stack[top - 1];
                    }
                } else if (top > 1) {
                    top--;
                    stack[top - 1] = joined(-code, stack[top - 1], stack[top]);
                }
            }
            return top > 0 ? stack[top - 1] : 0;
        }

        private static int joined(int sign, int a, int b) {
            switch (sign) {
                case '=':
                    return a == b ? 1 : 0;
                case '<':
                    return a < b ? 1 : 0;
                case '>':
                    return a > b ? 1 : 0;
                case '&':
                    return a & b;
                case '|':
                    return a | b;
                default:
                    break;
            }
            long result = 0;
            if (sign == '+') {
                result = a + b;
            } else if (sign == '-') {
                result = a - b;
            } else if (sign == '*') {
                result = (long) a * b;
            } else if (b != 0) {
                result = a / b;
            }
            if (result > MOST_NUMBER) {
                return MOST_NUMBER;
            }
            return result < -MOST_NUMBER ? -MOST_NUMBER : (int) result;
        }
    }

    /** Reads the tape as a law; each method is false where no law can go on, the head is there then. */
    private static final class LawReader {
        private final Tape tape;
        private Law into;

        LawReader(Tape tape, Law into) {
            this.tape = tape;
            this.into = into;
        }

        /** The fault, or NONE and the law is as told. */
        int read(Law law) {
            into = law;
            into.clear();
            tape.head = 0;
            for (int clauses = 0; clauses <= MOST_BYTES; clauses++) {
                if (!readClause()) {
                    return tape.head;
                }
                int sign = tape.sign();
                if (sign == END) {
                    return NONE;
                }
                if (sign != ';') {
                    return tape.head;
                }
                tape.head++;
            }
            return tape.head;
        }

        private boolean readClause() {
            if (tape.sign() != 'y') {
                return false;
            }
            tape.head++;
            if (tape.sign() != ':') {
                return false;
            }
            tape.head++;
            into.openClause();
            int sign = tape.sign();
            boolean isOpened = sign == '!' || sign == '(';
            if (!isOpened) {
                if (!readSum(0)) {
                    return false;
                }
                if (!isComparing(tape.sign())) {
                    return true;
                }
            }
            if (!readCondition(0, !isOpened) || tape.sign() != '?') {
                return false;
            }
            tape.head++;
            into.closeCondition();
            return readSum(0);
        }

        /** isBegun: its first sum has been read. */
        private boolean readCondition(int depth, boolean isBegun) {
            if (!readUnit(depth, isBegun)) {
                return false;
            }
            boolean waits = false;
            for (int i = 0; i < MOST_BYTES; i++) {
                int sign = tape.sign();
                if (sign != '&' && sign != '|') {
                    break;
                }
                tape.head++;
                if (sign == '|') {
                    if (waits) {
                        into.add(-'|');
                    }
                    waits = true;
                }
                if (!readUnit(depth, false)) {
                    return false;
                }
                if (sign == '&') {
                    into.add(-'&');
                }
            }
            if (waits) {
                into.add(-'|');
            }
            return true;
        }

        private boolean readUnit(int depth, boolean isBegun) {
            int sign = tape.sign();
            if (!isBegun && (sign == '!' || sign == '(')) {
                return depth < MOST_NESTED && readOpened(depth + 1, sign);
            }
            if (!isBegun && !readSum(depth)) {
                return false;
            }
            int comparing = tape.sign();
            if (!isComparing(comparing)) {
                return false;
            }
            tape.head++;
            if (!readSum(depth)) {
                return false;
            }
            into.add(-comparing);
            return true;
        }

        private boolean readOpened(int depth, int sign) {
            tape.head++;
            if (sign == '!') {
                if (!readUnit(depth, false)) {
                    return false;
                }
                into.add(-'!');
                return true;
            }
            if (!readCondition(depth, false) || tape.sign() != ')') {
                return false;
            }
            tape.head++;
            return true;
        }

        private boolean readSum(int depth) {
            if (!readAtom(depth)) {
                return false;
            }
            int waiting = 0;
            for (int i = 0; i < MOST_BYTES; i++) {
                int sign = tape.sign();
                boolean isTerm = sign == '+' || sign == '-';
                if (!isTerm && sign != '*' && sign != '/') {
                    break;
                }
                tape.head++;
                if (isTerm) {
                    if (waiting != 0) {
                        into.add(-waiting);
                    }
                    waiting = sign;
                }
                if (!readAtom(depth)) {
                    return false;
                }
                if (!isTerm) {
                    into.add(-sign);
                }
            }
            if (waiting != 0) {
                into.add(-waiting);
            }
            return true;
        }

        private boolean readAtom(int depth) {
            int sign = tape.sign();
            if (sign == '[') {
                if (depth >= MOST_NESTED) {
                    return false;
                }
                tape.head++;
                if (!readSum(depth + 1) || tape.sign() != ']') {
                    return false;
                }
                tape.head++;
                return true;
            }
            for (int i = 0; i < LAW_LETTERS.length(); i++) {
                if (LAW_LETTERS.charAt(i) == sign) {
                    tape.head++;
                    into.add(-1 - i);
                    return true;
                }
            }
            if (!tape.readNumber(4)) {
                return false;
            }
            into.add(tape.number);
            return true;
        }

        private static boolean isComparing(int sign) {
            return sign == '=' || sign == '<' || sign == '>';
        }
    }

    /** The laws, with one place behind them into which the next is read. */
    private static final class LawBook {
        private final Law[] laws = new Law[MOST_LAWS + 1];
        private int size;
        private int held = NONE;

        LawBook() {
            for (int i = 0; i <= MOST_LAWS; i++) {
                laws[i] = new Law();
            }
        }

        Law next() {
            return laws[size >= 0 && size < MOST_LAWS ? size : MOST_LAWS];
        }

        int take() {
            if (size < MOST_LAWS) {
                size++;
            }
            return size - 1;
        }

        /** The law that holds; null: none. */
        Law holding() {
            return held >= 0 && held < size && held < MOST_LAWS ? laws[held] : null;
        }
    }

    /** All that acts and days change, but for the rows of the log. */
    private static final class State {
        private Street street;
        private final int[] toldMinds = new int[MOST_HOUSES];
        private final int[] minds = new int[MOST_HOUSES];
        private final int[] shams = new int[MOST_HOUSES];
        private final int[] whites = new int[MOST_HOUSES];
        private final int[] hangings = new int[MOST_HOUSES];
        private final int[] people = new int[MOST_HOUSES];
        private int pianos;
        private int coins;
        private int place = NONE;
        private int form;
        private int day;
        private int logged;

        State(Street street) {
            this.street = street;
        }

        void begin(Street begun) {
            street = begun;
            for (int h = 0; h < MOST_HOUSES; h++) {
                toldMinds[h] = begun.ofHouse(h, 0);
                minds[h] = toldMinds[h];
                shams[h] = 0;
                whites[h] = begun.ofHouse(h, 1);
                hangings[h] = begun.ofHouse(h, 2);
                people[h] = begun.ofHouse(h, 3);
            }
            pianos = 0;
            coins = begun.firstCoins();
            place = begun.firstHouse() == NOWHERE ? NONE : begun.firstHouse();
            form = begun.firstForm();
            day = 0;
            logged = 0;
        }

        void copyFrom(State other) {
            street = other.street;
            System.arraycopy(other.toldMinds, 0, toldMinds, 0, MOST_HOUSES);
            System.arraycopy(other.minds, 0, minds, 0, MOST_HOUSES);
            System.arraycopy(other.shams, 0, shams, 0, MOST_HOUSES);
            System.arraycopy(other.whites, 0, whites, 0, MOST_HOUSES);
            System.arraycopy(other.hangings, 0, hangings, 0, MOST_HOUSES);
            System.arraycopy(other.people, 0, people, 0, MOST_HOUSES);
            pianos = other.pianos;
            coins = other.coins;
            place = other.place;
            form = other.form;
            day = other.day;
            logged = other.logged;
        }

        void mindMore(int house, int more) {
            if (house >= 0 && house < MOST_HOUSES) {
                toldMinds[house] = Math.min(NINE, toldMinds[house] + more);
                minds[house] = toldMinds[house];
            }
        }

        boolean hasPiano(int house) {
            return (pianos >> house & 1) != 0;
        }

        int minded(int house, Law law) {
            if (house < 0 || house >= MOST_HOUSES || people[house] == 0 || hasPiano(house)) {
                return 0;
            }
            int mind = minds[house] + shams[house];
            int worth;
            if (law == null) {
                worth = mind + whites[house] + people[house] / 2 - hangings[house];
            } else {
                int far = place == NONE ? 9 : Math.abs(house - place);
                worth = law.worth(mind, whites[house], hangings[house], people[house], street.sizeOf(form), far);
            }
            return Math.max(0, Math.min(MOST_MINDED, worth));
        }

        /** Where it would go, if it was a moving day now. */
        int goal(Law law) {
            int goal = NONE;
            int top = 0;
            for (int h = 0; h < street.houseCount(); h++) {
                int minded = minded(h, law);
                if (minded > top) {
                    top = minded;
                    goal = h;
                }
            }
            return goal;
        }

        /** Whether it was a moving day. */
        boolean passDay(Law law) {
            day++;
            for (int h = 0; h < street.houseCount(); h++) {
                int drawnTo = h == place ? 0 : toldMinds[h];
                if (minds[h] < drawnTo) {
                    minds[h]++;
                } else if (minds[h] > drawnTo) {
                    minds[h]--;
                }
            }
            int between = street.daysBetween();
            if (between < 1 || day % between != 0) {
                return false;
            }
            int goal = goal(law);
            if (goal != place) {
                form = street.following(form);
            }
            place = goal;
            pianos = 0;
            return true;
        }
    }

    /** The rows of moving days, the oldest overwritten; the state tells how many were written. */
    private static final class Log {
        private final int[] days = new int[LOG_KEPT];
        private final int[] places = new int[LOG_KEPT];
        private final int[] forms = new int[LOG_KEPT];

        private static int slot(int row) {
            return row & LOG_KEPT - 1;
        }

        void write(State state) {
            int slot = slot(state.logged);
            days[slot] = state.day;
            places[slot] = state.place;
            forms[slot] = state.form;
            state.logged++;
        }

        int dayAt(int row) {
            return days[slot(row)];
        }

        int placeAt(int row) {
            return places[slot(row)];
        }

        int formAt(int row) {
            return forms[slot(row)];
        }

        void copyFrom(Log other) {
            System.arraycopy(other.days, 0, days, 0, LOG_KEPT);
            System.arraycopy(other.places, 0, places, 0, LOG_KEPT);
            System.arraycopy(other.forms, 0, forms, 0, LOG_KEPT);
        }
    }

    /** How it was ahead of each of the latest acts. */
    private static final class Past {
        private final State[] states = new State[ACTS_KEPT];
        private int next;
        private int size;

        Past(Street street) {
            for (int i = 0; i < ACTS_KEPT; i++) {
                states[i] = new State(street);
            }
        }

        void keep(State state) {
            if (next < 0 || next >= ACTS_KEPT) {
                next = 0;
            }
            states[next].copyFrom(state);
            next = (next + 1) % ACTS_KEPT;
            size = Math.min(size + 1, ACTS_KEPT);
        }

        boolean takeBack(State state) {
            if (size < 1) {
                return false;
            }
            size--;
            next = next < 1 || next >= ACTS_KEPT ? ACTS_KEPT - 1 : next - 1;
            state.copyFrom(states[next]);
            return true;
        }

        void forget() {
            size = 0;
        }
    }

    /** An image of a state and of its log. */
    private static final class Image {
        private final State state;
        private final Log log = new Log();
        private boolean isKept;

        Image(Street street) {
            state = new State(street);
        }

        void keep(State from, Log rows) {
            state.copyFrom(from);
            log.copyFrom(rows);
            isKept = true;
        }

        void bringBack(State to, Log rows) {
            to.copyFrom(state);
            rows.copyFrom(log);
        }
    }

    /** What was told of a time: that it was so, or was not. */
    private static final class Notes {
        private final int[] whens = new int[MOST_NOTES];
        private final int[] whats = new int[MOST_NOTES];
        private final boolean[] truths = new boolean[MOST_NOTES];
        private int size;

        boolean add(int when, int what, boolean truth) {
            if (size < 0 || size >= MOST_NOTES) {
                return false;
            }
            whens[size] = when;
            whats[size] = what;
            truths[size] = truth;
            size++;
            return true;
        }
    }
}
