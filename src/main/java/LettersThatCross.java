import java.util.Arrays;

/** Letters that cross between three hands: what each holds, asks, knows, and what comes of it. */
public final class LettersThatCross {
    public static final int NONE = -1, BAD = -2, STATE = -3, FULL = -4;
    public static final long NO = -4611686018427387904L;

    private static final int NO_SUCH = -5, OFF = -7;
    private static final int NOTHING = -11, OUTSIDE = -12, OTHER_SORT = -13, NEGATIVE = -14;

    private static final int HANDS = 3, THINGS = 4;
    private static final int MOST_WAYS = 4, MOST_LETTERS = 16, MOST_TEXTS = 6, MOST_BYTES = 160;
    private static final int LAST_WRITTEN = 400, LAST_DAY = 999, NEVER = -1;
    private static final int MOST_RING_DAYS = 150, MOST_RING_LETTERS = 40, NEVER_HAD = 99;
    private static final int MOST_IFS = 6, MOST_COPIES = 8, MOST_WAIT = 200, MOST_LINE = 200;
    private static final int MOST_SHEETS = 4, MOST_CELLS = 40, MISSING = -1, BYTES = 0, SHORTS = 1, INTS = 2;
    private static final int LETTER_CELLS = 5, MOST_LETTERS_BY = 8;
    private static final int MOST_OPEN = 5, MOST_DIGITS = 4, FAULTS = -100;
    private static final long LOT_TIMES = 48271L, LOT_MODULO = 2147483647L;

    private static final int LETTER = 0, ASKING = 1, ANSWERING = 2, IF = 3, DOUBLED = 4, UNDOING = 5, A_WAY = 6;
    /** The KIND above each KIND. */
    private static final int[] ABOVE = {LETTER, LETTER, LETTER, ASKING, LETTER, ANSWERING};

    /** TOKENS; those up to TIMES, and a NUMBER as NUMBERS and its value, are what a TEXT keeps of them. */
    private static final int SEASON = 0, LONG = 1, HAD = 2, WROTE = 3, AGE = 4, DAY = 5, NAMES = 6;
    private static final int OR = 6, AND = 7, NOT = 8, LESS = 9, SAME = 10;
    private static final int PLUS = 11, MINUS = 12, TIMES = 13, NEGATE = 14;
    private static final int OPEN = 15, CLOSE = 16, SEMICOLON = 17, OVER = 18, WRONG = 19;
    private static final int LATE = 20, WRITE = 21, KEEP = 22, NUMBERS = 100;

    /** late season * long ; write 1 - wrote + had ; keep age < 30 ; with each sign behind what it joins. */
    private static final int[] FIRST_TEXT = {SEASON, LONG, TIMES,
        NUMBERS + 1, WROTE, MINUS, HAD, PLUS, AGE, NUMBERS + 30, LESS};

    private final Way[] ways = new Way[MOST_WAYS];
    private final World world = new World();
    private final Letter[] letters = world.letters;
    private final int[] heldAtFirst = world.heldAtFirst;
    private final Text[] texts = new Text[MOST_TEXTS];
    private final int[] names = new int[NAMES];
    private final int[] stack = new int[MOST_BYTES];
    private final Tape tape = new Tape();
    private final Ring lastRing = new Ring();
    private final Image kept = new Image();
    private final Sheet[] sheets = new Sheet[MOST_SHEETS];
    private int wayCount;
    private int letterCount;
    private int textCount;
    private int law;
    private int season;

    public LettersThatCross() {
        for (int s = 0; s < MOST_SHEETS; s++) {
            sheets[s] = new Sheet();
        }
        texts[0] = new Text(FIRST_TEXT, 3, 8);
        textCount = 1;
    }

    // ---- ways, hands

    public int way(int days, int every, int lost, int cost) {
        if (!within(days, 1, 90) || !within(every, 1, 30) || !within(lost, 0, 100) || !within(cost, 0, 99)) {
            return BAD;
        }
        if (wayCount >= MOST_WAYS) {
            return FULL;
        }
        ways[wayCount] = new Way(days, every, lost, cost);
        wayCount++;
        reckonDays();
        return wayCount - 1;
    }

    public int turn(int v) {
        if (!within(v, 0, 9)) {
            return BAD;
        }
        int was = season;
        season = v;
        reckonDays();
        return was;
    }

    public int hold(int h, int t, int v) {
        if (!isHand(h) || !isThing(t)) {
            return NONE;
        }
        if (!within(v, 0, 9)) {
            return BAD;
        }
        int place = World.placeOf(h, t);
        int was = heldAtFirst[place];
        heldAtFirst[place] = v;
        return was;
    }

    public int count(int what) {
        switch (what) {
            case 0: return wayCount;
            case 1: return letterCount;
            case 2: return season;
            case 3: return textCount;
            case 4: return law;
            case 5: return tape.size;
            default: return BAD;
        }
    }

    public int arrive(int w, int d) {
        if (!isWay(w)) {
            return NO_SUCH;
        }
        return within(d, 0, LAST_WRITTEN) ? ways[w].arrives(d) : OFF;
    }

    public int cheapest(int d, int by) {
        if (!within(d, 0, LAST_WRITTEN) || !isDay(by)) {
            return BAD;
        }
        int best = NONE;
        int bestComes = NEVER;
        for (int w = 0; w < wayCount; w++) {
            int comes = ways[w].arrives(d);
            if (comes > by) {
                continue;
            }
            int less = best == NONE ? -1 : Integer.compare(ways[w].cost, ways[best].cost);
            if (less < 0 || less == 0 && comes < bestComes) {
                best = w;
                bestComes = comes;
            }
        }
        return best;
    }

    public int last(int w, int by) {
        if (!isWay(w)) {
            return NO_SUCH;
        }
        if (!isDay(by)) {
            return OFF;
        }
        int lastToLeave = by - ways[w].days;
        return lastToLeave < 0 ? NONE : Math.min(ways[w].lastGoing(lastToLeave), LAST_WRITTEN);
    }

    // ---- the law

    public int feed(long w, int n) {
        if (!within(n, 1, 8)) {
            return BAD;
        }
        if (tape.size + n > MOST_BYTES) {
            return FULL;
        }
        for (int i = n - 1; i >= 0; i--) {
            tape.bytes[tape.size] = (byte) (w >> 8 * i);
            tape.size++;
        }
        return tape.size;
    }

    public int text() {
        if (textCount >= MOST_TEXTS) {
            return FULL;
        }
        Text read = tape.readText();
        tape.size = 0;
        if (read == null) {
            return FAULTS - tape.place;
        }
        texts[textCount] = read;
        textCount++;
        return textCount - 1;
    }

    public int force(int t) {
        if (!within(t, 0, textCount - 1)) {
            return BAD;
        }
        int was = law;
        law = t;
        reckonDays();
        return was;
    }

    // ---- letters

    public int write(int kind, int hands, int d, int what, int named) {
        if (!within(kind, LETTER, UNDOING) || !areTwo(hands) || !within(d, 0, LAST_WRITTEN)) {
            return BAD;
        }
        if (what < 0 || !isWay(what / 100) || !isThing(what / 10 % 10) || !within(named, NONE, letterCount - 1)) {
            return BAD;
        }
        if (letterCount > 0 && d < letters[letterCount - 1].day) {
            return STATE;
        }
        if (letterCount >= MOST_LETTERS) {
            return FULL;
        }
        letters[letterCount] = new Letter(kind, hands, d, what, named);
        letterCount++;
        return letterCount - 1;
    }

    public int lose(int l, int set) {
        if (!isLetter(l)) {
            return NONE;
        }
        if (!within(set, 0, (1 << wayCount) - 1)) {
            return BAD;
        }
        int was = letters[l].lost;
        letters[l].lost = set;
        return was;
    }

    public int told(int l, int what) {
        if (!isLetter(l)) {
            return NO_SUCH;
        }
        Letter letter = letters[l];
        switch (what) {
            case 0: return letter.kind;
            case 1: return letter.writer;
            case 2: return letter.reader;
            case 3: return letter.day;
            case 4: return letter.way;
            case 5: return letter.thing;
            case 6: return letter.more;
            case 7: return letter.named;
            case 8: return comesOf(letter, letter.lost);
            case 9: return costOf(letter);
            default: return OFF;
        }
    }

    // ---- what comes of it

    public int holdsThen(int h, int t, int d) {
        if (!isHand(h) || !isThing(t)) {
            return NO_SUCH;
        }
        if (!isDay(d)) {
            return OFF;
        }
        settle(d);
        return world.holds[World.placeOf(h, t)];
    }

    public int knew(int two, int t, int d, int what) {
        if (!areTwo(two) || !isThing(t)) {
            return NO_SUCH;
        }
        if (!isDay(d) || !within(what, 0, 1)) {
            return OFF;
        }
        settle(d);
        int place = World.knownPlaceOf(two / 10, two % 10, t);
        return what == 0 ? world.known[place] : world.asOf[place];
    }

    public int first(int two, int t, int v) {
        if (!areTwo(two) || !isThing(t)) {
            return NO_SUCH;
        }
        if (!within(v, 0, 9)) {
            return OFF;
        }
        int place = World.knownPlaceOf(two / 10, two % 10, t);
        int day = NEVER;
        reckonComing();
        for (int l = 0; l < letterCount; l++) {
            int comes = world.comes[l];
            if (comes == NEVER || day != NEVER && comes >= day) {
                continue;
            }
            world.pass(comes, 0);
            if (world.known[place] == v) {
                day = comes;
            }
        }
        return day;
    }

    public int isTrue(int l) {
        if (!isLetter(l)) {
            return NO_SUCH;
        }
        reckonComing();
        if (world.comes[l] == NEVER) {
            return STATE;
        }
        world.pass(world.comes[l], 0);
        return world.holds[World.placeOf(letters[l].writer, letters[l].thing)] == world.tells[l] ? 1 : 0;
    }

    public int archive(int h, int d, int what) {
        if (!isHand(h)) {
            return NO_SUCH;
        }
        if (!isDay(d) || !within(what, 0, 1)) {
            return OFF;
        }
        settle(d);
        int toHand = 0;
        for (int l = 0; l < letterCount; l++) {
            toHand |= letters[l].reader == h ? 1 << l : 0;
        }
        return toHand & (what == 0 ? world.come : world.done);
    }

    public int sure(int l, int d) {
        if (!isLetter(l)) {
            return NO_SUCH;
        }
        if (!isDay(d)) {
            return OFF;
        }
        settle(d);
        world.linkChains();
        return world.chains[l];
    }

    public int both(int d, int what) {
        if (!isDay(d) || !within(what, 0, 1)) {
            return BAD;
        }
        settle(d);
        world.linkChains();
        int longest = 0;
        int which = NONE;
        for (int l = 0; l < letterCount; l++) {
            if (world.chains[l] > longest) {
                longest = world.chains[l];
                which = l;
            }
        }
        return what == 0 ? longest : which;
    }

    public int crosses(int a, int b) {
        if (!isLetter(a) || !isLetter(b) || a == b) {
            return NO_SUCH;
        }
        reckonComing();
        return areCrossing(a, b) ? 1 : 0;
    }

    public int crossed(int l) {
        if (!isLetter(l)) {
            return NO_SUCH;
        }
        reckonComing();
        int found = 0;
        for (int other = 0; other < letterCount; other++) {
            found |= areCrossing(l, other) ? 1 << other : 0;
        }
        return found;
    }

    public int times(int l, int d) {
        if (!isLetter(l)) {
            return NO_SUCH;
        }
        if (!isDay(d)) {
            return OFF;
        }
        settle(d);
        return Integer.bitCount(world.done & askingAlike(l));
    }

    public int never(int d, int what) {
        if (!isDay(d) || !within(what, 0, 1)) {
            return BAD;
        }
        settle(d);
        int found = 0;
        for (int l = 0; l < letterCount; l++) {
            if (!letters[l].is(ASKING)) {
                continue;
            }
            int done = Integer.bitCount(world.done & askingAlike(l));
            found |= (what == 0 ? done == 0 : done > 1) ? 1 << l : 0;
        }
        return found;
    }

    public int whatever(int l, int k, int what) {
        if (!isLetter(l)) {
            return NO_SUCH;
        }
        if (!within(k, 0, Math.min(6, letterCount)) || !within(what, 0, 2)) {
            return OFF;
        }
        reckonComing();
        int alike = askingAlike(l);
        int least = MOST_LETTERS;
        int most = 0;
        int unlike = NONE;
        for (int set = 0; set < 1 << k; set++) {
            world.pass(LAST_DAY, set);
            int done = Integer.bitCount(world.done & alike);
            least = Math.min(least, done);
            most = Math.max(most, done);
            unlike = unlike == NONE && done != 1 ? set : unlike;
        }
        return what == 0 ? least : what == 1 ? most : unlike;
    }

    public int lacks(int two, int d) {
        if (!areTwo(two)) {
            return NO_SUCH;
        }
        if (!isDay(d)) {
            return OFF;
        }
        settle(d);
        int waiting = 0;
        int found = 0;
        for (int l = 0; l < letterCount; l++) {
            if (letters[l].writer != two / 10 || letters[l].reader != two % 10) {
                continue;
            }
            if ((world.come >> l & 1) == 0) {
                waiting |= 1 << l;
            } else {
                found = waiting;
            }
        }
        return found;
    }

    public int forged() {
        reckonComing();
        int found = 0;
        for (int l = 0; l < letterCount; l++) {
            found |= isForged(letters[l]) ? 1 << l : 0;
        }
        return found;
    }

    public int bargain(int l, int rule) {
        if (!isLetter(l)) {
            return NO_SUCH;
        }
        switch (rule) {
            case 0: return letters[l].day;
            case 1: return comesOf(letters[l], letters[l].lost);
            case 2: return firstAnswered(l);
            default: return OFF;
        }
    }

    public int obeys(int l, int d) {
        if (!isLetter(l)) {
            return NO_SUCH;
        }
        if (!within(d, letters[l].day, LAST_DAY)) {
            return OFF;
        }
        return keeps(letters[l], d) ? 1 : 0;
    }

    public int line(int l) {
        if (!isLetter(l)) {
            return NO_SUCH;
        }
        Letter letter = letters[l];
        int comes = comesOf(letter, letter.lost);
        if (comes == NEVER) {
            return STATE;
        }
        int age = NONE;
        for (int day = comes; day <= comes + MOST_LINE && keeps(letter, day); day++) {
            age = day - letter.day;
        }
        return age;
    }

    // ---- rings, games

    public int ring(int w, int n, int what) {
        if (!isWay(w)) {
            return NO_SUCH;
        }
        if (!within(n, 0, MOST_RING_DAYS) || !within(what, 0, 3)) {
            return OFF;
        }
        runRing(ways[w], n, texts[law]);
        switch (what) {
            case 0: return 2 * lastRing.wrote;
            case 1: return lastRing.lastWritten;
            case 2: return lastRing.wrote;
            default: return lastRing.had;
        }
    }

    public int ends(int w, int n) {
        if (!isWay(w)) {
            return NO_SUCH;
        }
        if (!within(n, 0, MOST_RING_DAYS)) {
            return OFF;
        }
        int found = 0;
        for (int t = 0; t < textCount; t++) {
            runRing(ways[w], n, texts[t]);
            found |= lastRing.lastWritten < n / 2 ? 1 << t : 0;
        }
        return found;
    }

    public long ifs(int right, int k, int part) {
        if (!within(right, 0, 100) || !within(k, 0, MOST_IFS) || !within(part, 0, 1)) {
            return NO;
        }
        return lowest(movesAbove(right, k), power(100, k), part);
    }

    public int many(int right, int letter, int each) {
        if (!within(right, 0, 100) || !within(letter, 1, 99) || !within(each, 0, 99)) {
            return BAD;
        }
        int best = 0;
        for (int k = 1; k <= MOST_IFS; k++) {
            // Both moves by both costs, over 100 as often as there can be IFS: no more than 7 * 10^12 * 693.
            long moves = movesAbove(right, k) * power(100, MOST_IFS - k) * (letter + best * each);
            long bestMoves = movesAbove(right, best) * power(100, MOST_IFS - best) * (letter + k * each);
            best = moves > bestMoves ? k : best;
        }
        return best;
    }

    // ---- asking again, surer ways, costs

    public int again(int w, int wait, int twice) {
        if (!isWay(w)) {
            return NO_SUCH;
        }
        if (!within(wait, 0, 99) || !within(twice, 0, 9999)) {
            return OFF;
        }
        int loses = ways[w].loses;
        int there = 2 * ways[w].days;
        int best = 0;
        int bestCost = 0;
        for (int t = 1; t <= MOST_WAIT; t++) {
            int cost = (100 - loses) * (there * wait + (t < there ? twice : 0)) + loses * (t + there) * wait;
            if (best == 0 || cost < bestCost) {
                best = t;
                bestCost = cost;
            }
        }
        return best;
    }

    public long surer(int two, int part) {
        if (two < 0 || !isWay(two / 10) || !isWay(two % 10) || !within(part, 0, 1)) {
            return NO;
        }
        return likely(two / 10, two % 10, part);
    }

    public int copies(int w, int sure) {
        if (!isWay(w)) {
            return NO_SUCH;
        }
        if (!within(sure, 0, 100)) {
            return OFF;
        }
        for (int n = 0; n <= MOST_COPIES; n++) {
            long all = power(100, n);
            if ((all - power(ways[w].loses, n)) * 100 >= sure * all) {
                return n;
            }
        }
        return NONE;
    }

    public int costs() {
        int sum = 0;
        for (int l = 0; l < letterCount; l++) {
            sum += costOf(letters[l]);
        }
        return sum;
    }

    public long odds(int l, int part) {
        if (!isLetter(l) || !within(part, 0, 1)) {
            return NO;
        }
        return likely(letters[l].way, otherWayOf(letters[l]), part);
    }

    public int drawn(int seed, int h, int what) {
        if (!within(seed, 0, 99999) || !isHand(h) || !within(what, 0, 2)) {
            return BAD;
        }
        long lot = seed + 1;
        for (int l = 0; l < letterCount; l++) {
            int lost = 0;
            for (int w = 0; w < wayCount; w++) {
                lot = lot * LOT_TIMES % LOT_MODULO;
                lost |= lot % 100 < ways[w].loses ? 1 << w : 0;
            }
            world.comes[l] = comesOf(letters[l], lost);
        }
        world.arrange(letterCount);
        world.pass(LAST_DAY, 0);
        switch (what) {
            case 0: return world.come;
            case 1: return Integer.bitCount(world.done);
            default: return world.holds[World.placeOf(h, 0)];
        }
    }

    public int image() {
        kept.isThere = true;
        kept.letterCount = letterCount;
        kept.season = season;
        kept.law = law;
        System.arraycopy(heldAtFirst, 0, kept.heldAtFirst, 0, HANDS * THINGS);
        for (int l = 0; l < letterCount; l++) {
            kept.lost[l] = letters[l].lost;
        }
        return letterCount;
    }

    public int back() {
        if (!kept.isThere) {
            return STATE;
        }
        for (int l = kept.letterCount; l < letterCount; l++) {
            letters[l] = null;
        }
        letterCount = kept.letterCount;
        season = kept.season;
        law = kept.law;
        System.arraycopy(kept.heldAtFirst, 0, heldAtFirst, 0, HANDS * THINGS);
        for (int l = 0; l < letterCount; l++) {
            letters[l].lost = kept.lost[l];
        }
        reckonDays();
        return letterCount;
    }

    // ---- the host

    public int sheet(int s, int sort, int n) {
        if (!isSheet(s) || !within(sort, MISSING, INTS)) {
            return BAD;
        }
        if (sort != MISSING && n > MOST_CELLS) {
            return BAD;
        }
        if (sort != MISSING && n < 0) {
            return NEGATIVE;
        }
        sheets[s].sort = sort;
        sheets[s].size = sort == MISSING ? 0 : n;
        Arrays.fill(sheets[s].cells, 0);
        return 1;
    }

    public int cell(int s, int i, int v) {
        if (!isSheet(s)) {
            return BAD;
        }
        Sheet sheet = sheets[s];
        if (sheet.sort == MISSING) {
            return NOTHING;
        }
        if (!within(i, 0, sheet.size - 1)) {
            return OUTSIDE;
        }
        sheet.cells[i] = sheet.sort == BYTES ? (byte) v : sheet.sort == SHORTS ? (short) v : v;
        return 1;
    }

    public int copy(int s, int i, int other, int j, int n) {
        if (!isSheet(s) || !isSheet(other)) {
            return BAD;
        }
        Sheet from = sheets[s];
        Sheet to = sheets[other];
        if (from.sort == MISSING || to.sort == MISSING) {
            return NOTHING;
        }
        if (from.sort != to.sort) {
            return OTHER_SORT;
        }
        if (!from.hasPlaces(i, n) || !to.hasPlaces(j, n)) {
            return OUTSIDE;
        }
        System.arraycopy(from.cells, i, to.cells, j, n);
        return n;
    }

    public int lettersBy(int s, int sort, int at, int n) {
        if (!isSheet(s) || !within(sort, BYTES, INTS) || !within(n, 0, MOST_LETTERS_BY)) {
            return BAD;
        }
        Sheet sheet = sheets[s];
        if (sheet.sort == MISSING) {
            return NOTHING;
        }
        if (sheet.sort != sort) {
            return OTHER_SORT;
        }
        int came = 0;
        int place = at;
        for (int i = 0; i < n; i++) {
            if (!sheet.hasPlaces(place, LETTER_CELLS)) {
                return OUTSIDE;
            }
            int[] row = sheet.cells;
            int answer = write(row[place], row[place + 1], row[place + 2], row[place + 3], row[place + 4]);
            came += answer >= 0 ? 1 : 0;
            place += LETTER_CELLS;
        }
        return came;
    }

    public int taken(int i, int kind) {
        if (!within(kind, LETTER, A_WAY)) {
            return BAD;
        }
        if (!within(i, 0, MOST_WAYS + MOST_LETTERS - 1)) {
            return OUTSIDE;
        }
        if (i < MOST_WAYS) {
            return i >= wayCount ? NOTHING : kind == A_WAY ? ways[i].cost : OTHER_SORT;
        }
        int l = i - MOST_WAYS;
        if (l >= letterCount) {
            return NOTHING;
        }
        return kind != A_WAY && letters[l].is(kind) ? l : OTHER_SORT;
    }

    // ---- what a number may be

    private static boolean within(int v, int low, int high) {
        return v >= low && v <= high;
    }

    private static boolean isHand(int h) {
        return within(h, 0, HANDS - 1);
    }

    private static boolean isThing(int t) {
        return within(t, 0, THINGS - 1);
    }

    private static boolean isDay(int d) {
        return within(d, 0, LAST_DAY);
    }

    private static boolean isSheet(int s) {
        return within(s, 0, MOST_SHEETS - 1);
    }

    /** Whether it is 10 times a HAND, and another one. */
    private static boolean areTwo(int two) {
        return two >= 0 && isHand(two / 10) && isHand(two % 10) && two / 10 != two % 10;
    }

    private boolean isWay(int w) {
        return within(w, 0, wayCount - 1);
    }

    private boolean isLetter(int l) {
        return within(l, 0, letterCount - 1);
    }

    // ---- when letters come, what they cost

    private static int bounded(int v, int low, int high) {
        return Math.max(low, Math.min(high, v));
    }

    private void giveNames(int days, int had, int wrote, int age, int day) {
        names[SEASON] = season;
        names[LONG] = days;
        names[HAD] = had;
        names[WROTE] = wrote;
        names[AGE] = age;
        names[DAY] = day;
    }

    /** How many days a WAY takes, LATE too, were the TEXT THE LAW. */
    private int daysTaken(Way way, Text text) {
        giveNames(way.takes, 0, 0, 0, 0);
        int late = bounded(text.value(LATE, names, stack), -99, 99);
        return bounded(way.takes + late, 1, 200);
    }

    /** Due behind each change of WAYS, SEASON or THE LAW. */
    private void reckonDays() {
        for (int w = 0; w < wayCount; w++) {
            ways[w].days = daysTaken(ways[w], texts[law]);
        }
    }

    /** The day on which a LETTER COMES if it is LOST by these WAYS (bits). */
    private int comesOf(Letter letter, int lost) {
        int one = comesBy(letter.way, letter.day, lost);
        if (!letter.is(DOUBLED)) {
            return one;
        }
        int other = comesBy(otherWayOf(letter), letter.day, lost);
        return one == NEVER || other != NEVER && other < one ? other : one;
    }

    private int comesBy(int w, int d, int lost) {
        return (lost >> w & 1) != 0 ? NEVER : ways[w].arrives(d);
    }

    /** The WAY by which a DOUBLED one is sent as well; of others their own WAY. */
    private int otherWayOf(Letter letter) {
        return letter.is(DOUBLED) && wayCount > 0 ? letter.more % wayCount : letter.way;
    }

    private int costOf(Letter letter) {
        int cost = ways[letter.way].cost;
        return letter.is(DOUBLED) ? cost + ways[otherWayOf(letter)].cost : cost;
    }

    private void reckonComing() {
        for (int l = 0; l < letterCount; l++) {
            world.comes[l] = comesOf(letters[l], letters[l].lost);
        }
        world.arrange(letterCount);
    }

    /** The world is as it is behind a day. */
    private void settle(int d) {
        reckonComing();
        world.pass(d, 0);
    }

    // ---- letters and others; behind reckonComing()

    private boolean areCrossing(int a, int b) {
        return letters[a].isBack(letters[b])
            && isAheadOfComing(letters[a].day, b) && isAheadOfComing(letters[b].day, a);
    }

    private boolean isAheadOfComing(int d, int l) {
        return world.comes[l] == NEVER || d < world.comes[l];
    }

    /** LETTERS (bits) that ask what this one asks, or would. */
    private int askingAlike(int l) {
        int found = 0;
        for (int other = 0; other < letterCount; other++) {
            found |= letters[other].asksAlike(letters[l]) ? 1 << other : 0;
        }
        return found;
    }

    private boolean isForged(Letter letter) {
        if (!isLetter(letter.named) || letters[letter.named].writer == letter.writer) {
            return false;
        }
        return letters[letter.named].reader != letter.writer || isAheadOfComing(letter.day, letter.named);
    }

    private int firstAnswered(int l) {
        reckonComing();
        if (world.comes[l] == NEVER) {
            return NEVER;
        }
        int day = NEVER;
        for (int a = l + 1; a < letterCount; a++) {
            int comes = world.comes[a];
            boolean binds = comes != NEVER && letters[a].answers(l, letters[l]) && letters[a].day >= world.comes[l];
            if (binds && (day == NEVER || comes < day)) {
                day = comes;
            }
        }
        return day;
    }

    private boolean keeps(Letter letter, int day) {
        giveNames(ways[letter.way].days, 0, 0, day - letter.day, day);
        return texts[law].value(KEEP, names, stack) != 0;
    }

    /** Both are alike on each day, since what the one writes comes on a later one: one is followed for both. */
    private void runRing(Way way, int n, Text text) {
        int days = daysTaken(way, text);
        int lastHad = NEVER;
        lastRing.clear();
        for (int day = 0; day < n && day < MOST_RING_DAYS; day++) {
            if (lastRing.coming[day] > 0) {
                lastRing.had += lastRing.coming[day];
                lastHad = day;
            }
            giveNames(days, lastRing.had, lastRing.wrote, lastHad == NEVER ? NEVER_HAD : day - lastHad, day);
            if (lastRing.wrote < MOST_RING_LETTERS && text.value(WRITE, names, stack) > 0) {
                lastRing.send(day, way.leaves(day) + days);
            }
        }
    }

    // ---- parts of numbers

    private static long power(long base, int exponent) {
        long product = 1;
        for (int i = 0; i < exponent; i++) {
            product *= base;
        }
        return product;
    }

    /** Moves of a letter with k IFS, times 100 to the power k. */
    private static long movesAbove(int right, int k) {
        long moves = 1;
        for (int i = 1; i <= k; i++) {
            moves = moves * right + power(100, i);
        }
        return moves;
    }

    private static long lowest(long above, long below, int part) {
        long common = below;
        long rest = above;
        for (int i = 0; i < 1000 && rest != 0; i++) {
            long next = common % rest;
            common = rest;
            rest = next;
        }
        return common == 0 ? NO : (part == 0 ? above : below) / common;
    }

    private long likely(int one, int other, int part) {
        int otherLoses = one == other ? 100 : ways[other].loses;
        return lowest(10000 - ways[one].loses * otherLoses, 10000, part);
    }

    /** A WAY by which letters go. */
    private static final class Way {
        final int takes;
        final int every;
        final int loses;
        final int cost;
        /** How many days it takes now, LATE too. */
        int days;

        Way(int takes, int every, int loses, int cost) {
            this.takes = takes;
            this.every = every;
            this.loses = loses;
            this.cost = cost;
        }

        /** The last day up to d on which it goes. */
        int lastGoing(int d) {
            return every < 1 ? d : d / every * every;
        }

        int leaves(int d) {
            return lastGoing(d + every - 1);
        }

        int arrives(int d) {
            return leaves(d) + days;
        }
    }

    /** A LETTER of any KIND, as it was written. */
    private static final class Letter {
        final int kind;
        final int writer;
        final int reader;
        final int day;
        final int way;
        final int thing;
        final int more;
        final int named;
        int lost;

        Letter(int kind, int hands, int day, int what, int named) {
            this.kind = kind;
            this.writer = hands / 10;
            this.reader = hands % 10;
            this.day = day;
            this.way = what / 100;
            this.thing = what / 10 % 10;
            this.more = what % 10;
            this.named = named;
        }

        /** Whether it is one of a KIND, or of one below that; each is a LETTER. */
        boolean is(int aKind) {
            return aKind == LETTER || kind == aKind || ABOVE[kind] == aKind;
        }

        boolean isBack(Letter other) {
            return writer == other.reader && reader == other.writer;
        }

        boolean answers(int number, Letter other) {
            return is(ANSWERING) && named == number && isBack(other);
        }

        boolean asksAlike(Letter other) {
            return writer == other.writer && reader == other.reader && thing == other.thing && more == other.more;
        }
    }

    /** What HANDS hold and know, and which LETTERS have come, behind a day. */
    private static final class World {
        final Letter[] letters = new Letter[MOST_LETTERS];
        final int[] heldAtFirst = new int[HANDS * THINGS];
        final int[] comes = new int[MOST_LETTERS];
        final int[] order = new int[MOST_LETTERS];
        final int[] tells = new int[MOST_LETTERS];
        final int[] heldAhead = new int[MOST_LETTERS];
        final int[] chains = new int[MOST_LETTERS];
        final int[] holds = new int[HANDS * THINGS];
        final int[] known = new int[HANDS * HANDS * THINGS];
        final int[] asOf = new int[HANDS * HANDS * THINGS];
        int letterCount;
        int comingCount;
        int come;
        int done;
        int undone;

        static int placeOf(int hand, int thing) {
            return hand * THINGS + thing;
        }

        static int knownPlaceOf(int knower, int holder, int thing) {
            return (knower * HANDS + holder) * THINGS + thing;
        }

        /** Those that ever come stand in order as they are read: by the day, then by numbers. */
        void arrange(int count) {
            letterCount = count;
            comingCount = 0;
            for (int l = 0; l < count; l++) {
                if (comes[l] == NEVER) {
                    continue;
                }
                int at = comingCount;
                for (; at > 0 && comes[order[at - 1]] > comes[l]; at--) {
                    order[at] = order[at - 1];
                }
                order[at] = l;
                comingCount++;
            }
        }

        /** All days up to one pass, from the first on; the skipped LETTERS (bits) never come. */
        void pass(int until, int skipped) {
            System.arraycopy(heldAtFirst, 0, holds, 0, HANDS * THINGS);
            Arrays.fill(known, NONE);
            Arrays.fill(asOf, NEVER);
            come = 0;
            done = 0;
            undone = 0;
            int written = 0;
            for (int i = 0; i < comingCount && comes[order[i]] <= until; i++) {
                int l = order[i];
                if ((skipped >> l & 1) != 0) {
                    continue;
                }
                // Nothing has come since the days of these letters: what is held now was held behind them.
                for (; written < letterCount && letters[written].day < comes[l]; written++) {
                    tells[written] = holds[placeOf(letters[written].writer, letters[written].thing)];
                }
                readLetter(l, letters[l]);
            }
        }

        private void readLetter(int l, Letter letter) {
            come |= 1 << l;
            int place = knownPlaceOf(letter.reader, letter.writer, letter.thing);
            if (asOf[place] <= letter.day) {
                known[place] = tells[l];
                asOf[place] = letter.day;
            }
            if (letter.is(ASKING) && mayBeDone(l, letter)) {
                int held = placeOf(letter.reader, letter.thing);
                heldAhead[l] = holds[held];
                holds[held] = letter.more;
                done |= 1 << l;
            }
            if (letter.is(UNDOING) && letter.named != NONE) {
                undo(letter.named);
            }
        }

        private boolean mayBeDone(int l, Letter letter) {
            int next = placeOf(letter.reader, (letter.thing + 1) % THINGS);
            return (undone >> l & 1) == 0 && (!letter.is(IF) || holds[next] >= letter.more);
        }

        private void undo(int l) {
            undone |= 1 << l;
            if ((done >> l & 1) != 0) {
                holds[placeOf(letters[l].reader, letters[l].thing)] = heldAhead[l];
                done &= ~(1 << l);
            }
        }

        /** Each CHAIN, from the last LETTER on, as those that name one have greater numbers. */
        void linkChains() {
            Arrays.fill(chains, 0);
            for (int l = letterCount - 1; l >= 0; l--) {
                chains[l] = (come >> l & 1) == 0 ? 0 : chains[l] + 1;
                int named = letters[l].named;
                if (named != NONE && letters[l].answers(named, letters[named])) {
                    chains[named] = Math.max(chains[named], chains[l]);
                }
            }
        }
    }

    /** What became of the RING that was run last. */
    private static final class Ring {
        final int[] coming = new int[MOST_RING_DAYS];
        int wrote;
        int had;
        int lastWritten;

        void clear() {
            Arrays.fill(coming, 0);
            wrote = 0;
            had = 0;
            lastWritten = NEVER;
        }

        void send(int day, int comes) {
            wrote++;
            lastWritten = day;
            if (comes < MOST_RING_DAYS) {
                coming[comes]++;
            }
        }
    }

    /** What AN IMAGE keeps. */
    private static final class Image {
        final int[] heldAtFirst = new int[HANDS * THINGS];
        final int[] lost = new int[MOST_LETTERS];
        boolean isThere;
        int letterCount;
        int season;
        int law;
    }

    /** A SHEET, or its place while it is missing. */
    private static final class Sheet {
        final int[] cells = new int[MOST_CELLS];
        int sort = MISSING;
        int size;

        boolean hasPlaces(int from, int n) {
            return from >= 0 && n >= 0 && from <= size && n <= size - from;
        }
    }

    /** A TEXT: its TOKENS, each sign behind what it joins. */
    private static final class Text {
        final int[] codes;
        final int lateEnd;
        final int writeEnd;

        Text(int[] codes, int lateEnd, int writeEnd) {
            this.codes = codes;
            this.lateEnd = lateEnd;
            this.writeEnd = writeEnd;
        }

        int value(int part, int[] names, int[] stack) {
            int from = part == LATE ? 0 : part == WRITE ? lateEnd : writeEnd;
            int to = part == LATE ? lateEnd : part == WRITE ? writeEnd : codes.length;
            int height = 0;
            for (int i = from; i < to; i++) {
                int code = codes[i];
                if (code >= NUMBERS || code < NAMES) {
                    if (height >= stack.length) {
                        return 0;
                    }
                    stack[height] = code >= NUMBERS ? code - NUMBERS : names[code];
                    height++;
                } else if (code == NOT || code == NEGATE) {
                    if (height < 1) {
                        return 0;
                    }
                    int one = stack[height - 1];
                    stack[height - 1] = code == NEGATE ? -one : one == 0 ? 1 : 0;
                } else {
                    if (height < 2) {
                        return 0;
                    }
                    height--;
                    stack[height - 1] = joined(code, stack[height - 1], stack[height]);
                }
            }
            return height < 1 ? 0 : stack[0];
        }

        private static int joined(int sign, int a, int b) {
            switch (sign) {
                case OR: return a != 0 || b != 0 ? 1 : 0;
                case AND: return a != 0 && b != 0 ? 1 : 0;
                case LESS: return a < b ? 1 : 0;
                case SAME: return a == b ? 1 : 0;
                case PLUS: return a + b;
                case MINUS: return a - b;
                default: return a * b;
            }
        }
    }

    /** THE TAPE, and how a TEXT is read from it. */
    private static final class Tape {
        final byte[] bytes = new byte[MOST_BYTES];
        final int[] codes = new int[MOST_BYTES];
        int size;
        /** Where the TOKEN begins that is read now: behind a FAULT its place. */
        int place;
        private int token;
        private int at;
        private int codeCount;

        /** The TEXT; null by a FAULT. */
        Text readText() {
            at = 0;
            codeCount = 0;
            readToken();
            if (!readPart(LATE)) {
                return null;
            }
            int lateEnd = codeCount;
            if (!readPart(WRITE)) {
                return null;
            }
            int writeEnd = codeCount;
            if (!readPart(KEEP) || token != OVER) {
                return null;
            }
            return new Text(Arrays.copyOf(codes, codeCount), lateEnd, writeEnd);
        }

        private boolean readPart(int key) {
            if (token != key) {
                return false;
            }
            readToken();
            if (!readAny(0) || token != SEMICOLON) {
                return false;
            }
            readToken();
            return true;
        }

        /** An E, with so many open; each of these stops at the TOKEN that can't stand there. */
        private boolean readAny(int open) {
            boolean isRead = readAnd(open);
            for (int i = 0; i < MOST_BYTES && isRead && token == OR; i++) {
                readToken();
                isRead = readAnd(open);
                keepCode(OR);
            }
            return isRead;
        }

        private boolean readAnd(int open) {
            boolean isRead = readNot(open);
            for (int i = 0; i < MOST_BYTES && isRead && token == AND; i++) {
                readToken();
                isRead = readNot(open);
                keepCode(AND);
            }
            return isRead;
        }

        private boolean readNot(int open) {
            if (token == NOT) {
                if (open >= MOST_OPEN) {
                    return false;
                }
                readToken();
                boolean isRead = readNot(open + 1);
                keepCode(NOT);
                return isRead;
            }
            if (!readSum(open)) {
                return false;
            }
            int sign = token;
            if (sign != LESS && sign != SAME) {
                return true;
            }
            readToken();
            boolean isRead = readSum(open);
            keepCode(sign);
            return isRead;
        }

        private boolean readSum(int open) {
            boolean isRead = readTerm(open);
            for (int i = 0; i < MOST_BYTES && isRead && (token == PLUS || token == MINUS); i++) {
                int sign = token;
                readToken();
                isRead = readTerm(open);
                keepCode(sign);
            }
            return isRead;
        }

        private boolean readTerm(int open) {
            boolean isRead = readOne(open);
            for (int i = 0; i < MOST_BYTES && isRead && token == TIMES; i++) {
                readToken();
                isRead = readOne(open);
                keepCode(TIMES);
            }
            return isRead;
        }

        private boolean readOne(int open) {
            if (token >= NUMBERS || token < NAMES) {
                keepCode(token);
                readToken();
                return true;
            }
            if (token != MINUS && token != OPEN || open >= MOST_OPEN) {
                return false;
            }
            if (token == MINUS) {
                readToken();
                boolean isRead = readOne(open + 1);
                keepCode(NEGATE);
                return isRead;
            }
            readToken();
            if (!readAny(open + 1) || token != CLOSE) {
                return false;
            }
            readToken();
            return true;
        }

        private void keepCode(int code) {
            if (codeCount < MOST_BYTES) {
                codes[codeCount] = code;
                codeCount++;
            }
        }

        private void readToken() {
            while (at < size && (bytes[at] == 32 || bytes[at] == 10)) {
                at++;
            }
            place = at;
            if (at >= size) {
                token = OVER;
            } else if (isLetterSign(bytes[at])) {
                token = readWord();
            } else if (isDigit(bytes[at])) {
                token = readNumber();
            } else {
                token = signToken(bytes[at]);
                at++;
            }
        }

        private static boolean isLetterSign(int sign) {
            return within(sign, 'a', 'z');
        }

        private static boolean isDigit(int sign) {
            return within(sign, '0', '9');
        }

        private int readNumber() {
            int value = 0;
            for (; at < size && isDigit(bytes[at]); at++) {
                value = value * 10 + bytes[at] - '0';
            }
            return at - place > MOST_DIGITS ? WRONG : NUMBERS + value;
        }

        private int readWord() {
            while (at < size && isLetterSign(bytes[at])) {
                at++;
            }
            int key = keyToken();
            return key == WRONG ? nameToken() : key;
        }

        private int keyToken() {
            if (wordIs("late")) {
                return LATE;
            }
            if (wordIs("write")) {
                return WRITE;
            }
            if (wordIs("keep")) {
                return KEEP;
            }
            if (wordIs("or")) {
                return OR;
            }
            if (wordIs("and")) {
                return AND;
            }
            return wordIs("not") ? NOT : WRONG;
        }

        private int nameToken() {
            if (wordIs("season")) {
                return SEASON;
            }
            if (wordIs("long")) {
                return LONG;
            }
            if (wordIs("had")) {
                return HAD;
            }
            if (wordIs("wrote")) {
                return WROTE;
            }
            if (wordIs("age")) {
                return AGE;
            }
            return wordIs("day") ? DAY : WRONG;
        }

        private boolean wordIs(String word) {
            if (at - place != word.length()) {
                return false;
            }
            for (int i = 0; i < word.length(); i++) {
                if (bytes[place + i] != word.charAt(i)) {
                    return false;
                }
            }
            return true;
        }

        private static int signToken(int sign) {
            switch (sign) {
                case '(': return OPEN;
                case ')': return CLOSE;
                case ';': return SEMICOLON;
                case '+': return PLUS;
                case '-': return MINUS;
                case '*': return TIMES;
                case '<': return LESS;
                case '=': return SAME;
                default: return WRONG;
            }
        }
    }
}
