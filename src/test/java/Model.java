import java.util.ArrayList;
import java.util.Arrays;
import java.util.List;
import java.util.function.IntBinaryOperator;
import java.util.function.IntPredicate;

/** The document once more, day by day and as slow as it likes: RandomRunsTest compares the class with it. */
final class Model {
    private record Way(int takes, int every, int loses, int cost) { }

    private record Letter(int number, int kind, int writer, int reader, int day, int way, int thing, int more, int named) {
        boolean isAsking() {
            return kind == 1 || kind == 3;
        }

        boolean isAnswering() {
            return kind == 2 || kind == 5;
        }
    }

    private record Image(int[][] held, int season, List<Integer> lost, int law) { }

    /** All as it is behind a day. */
    private static final class Behind {
        final int[][] holds = new int[3][];
        final int[][][] known = new int[3][3][4];
        final int[][][] asOf = new int[3][3][4];
        final boolean[] come = new boolean[16];
        final boolean[] done = new boolean[16];
        final boolean[] undone = new boolean[16];
        final int[] tells = new int[16];
        final int[] before = new int[16];
    }

    private final List<Way> ways = new ArrayList<>();
    private final List<Letter> letters = new ArrayList<>();
    private List<Integer> lost = new ArrayList<>();
    private final List<ModelText> texts = new ArrayList<>();
    private final int[][] held = new int[3][4];
    private final int[][] sheets = new int[4][];
    private final int[] sorts = new int[4];
    private String tape = "";
    private int season;
    private int law;
    private Image image;

    Model() {
        texts.add(new ModelText("late season * long ; write 1 - wrote + had ; keep age < 30 ;"));
    }

    private static boolean in(long v, long low, long high) {
        return low <= v && v <= high;
    }

    private boolean isWay(int w) {
        return in(w, 0, ways.size() - 1);
    }

    private boolean isLetter(int l) {
        return in(l, 0, letters.size() - 1);
    }

    private static boolean isTwo(int two) {
        return Arrays.asList(1, 2, 10, 12, 20, 21).contains(two);
    }

    // ---- ways, hands

    public int way(int days, int every, int lost, int cost) {
        if (!in(days, 1, 90) || !in(every, 1, 30) || !in(lost, 0, 100) || !in(cost, 0, 99)) {
            return -2;
        }
        if (ways.size() == 4) {
            return -4;
        }
        ways.add(new Way(days, every, lost, cost));
        return ways.size() - 1;
    }

    public int turn(int v) {
        if (!in(v, 0, 9)) {
            return -2;
        }
        int was = season;
        season = v;
        return was;
    }

    public int hold(int h, int t, int v) {
        if (!in(h, 0, 2) || !in(t, 0, 3)) {
            return -1;
        }
        if (!in(v, 0, 9)) {
            return -2;
        }
        int was = held[h][t];
        held[h][t] = v;
        return was;
    }

    public int count(int what) {
        int[] all = {ways.size(), letters.size(), season, texts.size(), law, tape.length()};
        return in(what, 0, 5) ? all[what] : -2;
    }

    private int taking(int w, ModelText text) {
        int takes = ways.get(w).takes;
        int late = text.late.applyAsInt(new int[] {season, takes, 0, 0, 0, 0});
        late = late < -99 ? -99 : late > 99 ? 99 : late;
        int days = takes + late;
        return days < 1 ? 1 : days > 200 ? 200 : days;
    }

    private int coming(int w, int d, ModelText text) {
        int goes = d;
        while (goes % ways.get(w).every != 0) {
            goes++;
        }
        return goes + taking(w, text);
    }

    private ModelText theLaw() {
        return texts.get(law);
    }

    public int arrive(int w, int d) {
        return !isWay(w) ? -5 : !in(d, 0, 400) ? -7 : coming(w, d, theLaw());
    }

    public int cheapest(int d, int by) {
        if (!in(d, 0, 400) || !in(by, 0, 999)) {
            return -2;
        }
        for (int cost = 0; cost < 100; cost++) {
            for (int day = 0; day <= by; day++) {
                for (int w = 0; w < ways.size(); w++) {
                    if (ways.get(w).cost == cost && arrive(w, d) == day) {
                        return w;
                    }
                }
            }
        }
        return -1;
    }

    public int last(int w, int by) {
        if (!isWay(w)) {
            return -5;
        }
        if (!in(by, 0, 999)) {
            return -7;
        }
        for (int d = 400; d >= 0; d--) {
            if (arrive(w, d) <= by) {
                return d;
            }
        }
        return -1;
    }

    // ---- the law

    public int feed(long w, int n) {
        if (!in(n, 1, 8)) {
            return -2;
        }
        if (tape.length() + n > 160) {
            return -4;
        }
        for (int i = n; i > 0; i--) {
            tape += (char) (w >>> (i - 1) * 8 & 255);
        }
        return tape.length();
    }

    public int text() {
        if (texts.size() == 6) {
            return -4;
        }
        String read = tape;
        tape = "";
        try {
            texts.add(new ModelText(read));
            return texts.size() - 1;
        } catch (ModelText.Fault fault) {
            return -100 - fault.place;
        }
    }

    public int force(int t) {
        if (!in(t, 0, texts.size() - 1)) {
            return -2;
        }
        int was = law;
        law = t;
        return was;
    }

    // ---- letters

    public int write(int kind, int hands, int d, int what, int named) {
        boolean good = in(kind, 0, 5) && isTwo(hands) && in(d, 0, 400) && in(what, 0, ways.size() * 100 - 1)
            && what % 100 < 40 && in(named, -1, letters.size() - 1);
        if (!good) {
            return -2;
        }
        int n = letters.size();
        if (n > 0 && letters.get(n - 1).day > d) {
            return -3;
        }
        if (n == 16) {
            return -4;
        }
        letters.add(new Letter(n, kind, hands / 10, hands % 10, d, what / 100, what % 100 / 10, what % 10, named));
        lost.add(0);
        return n;
    }

    public int lose(int l, int set) {
        if (!isLetter(l)) {
            return -1;
        }
        if (set < 0 || set >= Math.pow(2, ways.size())) {
            return -2;
        }
        return lost.set(l, set);
    }

    private List<Integer> waysOf(Letter l) {
        return l.kind == 4 ? List.of(l.way, l.more % ways.size()) : List.of(l.way);
    }

    private int comes(int l, List<Integer> lost) {
        int day = -1;
        for (int w : waysOf(letters.get(l))) {
            if ((lost.get(l) & 1 << w) == 0) {
                int comes = coming(w, letters.get(l).day, theLaw());
                day = day < 0 || comes < day ? comes : day;
            }
        }
        return day;
    }

    private int comes(int l) {
        return comes(l, lost);
    }

    public int told(int l, int what) {
        if (!isLetter(l)) {
            return -5;
        }
        Letter x = letters.get(l);
        int cost = 0;
        for (int w : waysOf(x)) {
            cost += ways.get(w).cost;
        }
        int[] all = {x.kind, x.writer, x.reader, x.day, x.way, x.thing, x.more, x.named, comes(l), cost};
        return in(what, 0, 9) ? all[what] : -7;
    }

    // ---- what comes of it

    private Behind behind(int d) {
        return behind(d, lost);
    }

    private Behind behind(int d, List<Integer> lost) {
        Behind b = new Behind();
        int[] comes = new int[letters.size()];
        for (int l = 0; l < comes.length; l++) {
            comes[l] = comes(l, lost);
        }
        for (int h = 0; h < 3; h++) {
            b.holds[h] = held[h].clone();
            for (int o = 0; o < 3; o++) {
                Arrays.fill(b.known[h][o], -1);
                Arrays.fill(b.asOf[h][o], -1);
            }
        }
        for (int day = 0; day <= d; day++) {
            for (Letter x : letters) {
                if (comes[x.number] == day) {
                    read(b, x);
                }
            }
            for (Letter x : letters) {
                if (x.day == day) {
                    b.tells[x.number] = b.holds[x.writer][x.thing];
                }
            }
        }
        return b;
    }

    private void read(Behind b, Letter x) {
        b.come[x.number] = true;
        if (b.asOf[x.reader][x.writer][x.thing] <= x.day) {
            b.known[x.reader][x.writer][x.thing] = b.tells[x.number];
            b.asOf[x.reader][x.writer][x.thing] = x.day;
        }
        boolean may = !b.undone[x.number];
        if (x.kind == 3) {
            may &= b.holds[x.reader][x.thing == 3 ? 0 : x.thing + 1] >= x.more;
        }
        if (x.isAsking() && may) {
            b.before[x.number] = b.holds[x.reader][x.thing];
            b.holds[x.reader][x.thing] = x.more;
            b.done[x.number] = true;
        }
        if (x.kind == 5 && x.named >= 0) {
            b.undone[x.named] = true;
            if (b.done[x.named]) {
                b.done[x.named] = false;
                Letter y = letters.get(x.named);
                b.holds[y.reader][y.thing] = b.before[x.named];
            }
        }
    }

    private int bits(IntPredicate is) {
        int found = 0;
        for (int l = 0; l < letters.size(); l++) {
            found += is.test(l) ? 1 << l : 0;
        }
        return found;
    }

    public int holdsThen(int h, int t, int d) {
        return !in(h, 0, 2) || !in(t, 0, 3) ? -5 : !in(d, 0, 999) ? -7 : behind(d).holds[h][t];
    }

    public int knew(int two, int t, int d, int what) {
        if (!isTwo(two) || !in(t, 0, 3)) {
            return -5;
        }
        if (!in(d, 0, 999) || !in(what, 0, 1)) {
            return -7;
        }
        Behind b = behind(d);
        return (what == 0 ? b.known : b.asOf)[two / 10][two % 10][t];
    }

    public int first(int two, int t, int v) {
        if (!isTwo(two) || !in(t, 0, 3)) {
            return -5;
        }
        if (!in(v, 0, 9)) {
            return -7;
        }
        for (int d = 0; d < 1000; d++) {
            int day = d;
            if (bits(l -> comes(l) == day) != 0 && knew(two, t, d, 0) == v) {
                return d;
            }
        }
        return -1;
    }

    public int isTrue(int l) {
        if (!isLetter(l)) {
            return -5;
        }
        if (comes(l) < 0) {
            return -3;
        }
        Letter x = letters.get(l);
        return behind(x.day).holds[x.writer][x.thing] == behind(comes(l)).holds[x.writer][x.thing] ? 1 : 0;
    }

    public int archive(int h, int d, int what) {
        if (!in(h, 0, 2)) {
            return -5;
        }
        if (!in(d, 0, 999) || !in(what, 0, 1)) {
            return -7;
        }
        Behind b = behind(d);
        return bits(l -> letters.get(l).reader == h && (what == 0 ? b.come : b.done)[l]);
    }

    private int chain(int l, Behind b) {
        if (!b.come[l]) {
            return 0;
        }
        int longest = 0;
        for (Letter x : letters) {
            if (x.named == l && x.isAnswering() && x.writer == letters.get(l).reader && x.reader == letters.get(l).writer) {
                longest = Math.max(longest, chain(x.number, b));
            }
        }
        return 1 + longest;
    }

    public int sure(int l, int d) {
        return !isLetter(l) ? -5 : !in(d, 0, 999) ? -7 : chain(l, behind(d));
    }

    public int both(int d, int what) {
        if (!in(d, 0, 999) || !in(what, 0, 1)) {
            return -2;
        }
        Behind b = behind(d);
        for (int c = 16; c > 0; c--) {
            for (int l = 0; l < letters.size(); l++) {
                if (chain(l, b) == c) {
                    return what == 0 ? c : l;
                }
            }
        }
        return what == 0 ? 0 : -1;
    }

    public int crosses(int a, int b) {
        if (!isLetter(a) || !isLetter(b) || a == b) {
            return -5;
        }
        Letter x = letters.get(a);
        Letter y = letters.get(b);
        boolean back = x.writer == y.reader && x.reader == y.writer;
        boolean xAhead = comes(b) < 0 || x.day < comes(b);
        boolean yAhead = comes(a) < 0 || y.day < comes(a);
        return back && xAhead && yAhead ? 1 : 0;
    }

    public int crossed(int l) {
        return !isLetter(l) ? -5 : bits(o -> crosses(l, o) == 1);
    }

    private int times(int l, Behind b) {
        Letter x = letters.get(l);
        return Integer.bitCount(bits(o -> {
            Letter y = letters.get(o);
            return b.done[o] && y.writer == x.writer && y.reader == x.reader && y.thing == x.thing && y.more == x.more;
        }));
    }

    public int times(int l, int d) {
        return !isLetter(l) ? -5 : !in(d, 0, 999) ? -7 : times(l, behind(d));
    }

    public int never(int d, int what) {
        if (!in(d, 0, 999) || !in(what, 0, 1)) {
            return -2;
        }
        Behind b = behind(d);
        return bits(l -> letters.get(l).isAsking() && (what == 0 ? times(l, b) == 0 : times(l, b) > 1));
    }

    public int whatever(int l, int k, int what) {
        if (!isLetter(l)) {
            return -5;
        }
        if (!in(k, 0, 6) || k > letters.size() || !in(what, 0, 2)) {
            return -7;
        }
        List<Integer> all = new ArrayList<>();
        for (int set = 0; set < Math.pow(2, k); set++) {
            List<Integer> now = new ArrayList<>(lost);
            for (int i = 0; i < k; i++) {
                if ((set & 1 << i) != 0) {
                    now.set(i, 15);
                }
            }
            all.add(times(l, behind(700, now)));
        }
        IntBinaryOperator better = what == 0 ? Math::min : Math::max;
        if (what < 2) {
            return all.stream().mapToInt(Integer::intValue).reduce(better).getAsInt();
        }
        for (int set = 0; set < all.size(); set++) {
            if (all.get(set) != 1) {
                return set;
            }
        }
        return -1;
    }

    public int lacks(int two, int d) {
        if (!isTwo(two)) {
            return -5;
        }
        if (!in(d, 0, 999)) {
            return -7;
        }
        Behind b = behind(d);
        IntPredicate is = l -> letters.get(l).writer == two / 10 && letters.get(l).reader == two % 10;
        int came = bits(l -> is.test(l) && b.come[l]);
        return bits(l -> is.test(l) && !b.come[l] && came >> l != 0);
    }

    public int forged() {
        return bits(l -> {
            Letter x = letters.get(l);
            if (x.named < 0) {
                return false;
            }
            Letter y = letters.get(x.named);
            boolean unread = y.reader != x.writer || comes(y.number) < 0 || comes(y.number) > x.day;
            return y.writer != x.writer && unread;
        });
    }

    public int bargain(int l, int rule) {
        if (!isLetter(l)) {
            return -5;
        }
        if (!in(rule, 0, 2)) {
            return -7;
        }
        Letter x = letters.get(l);
        if (rule == 0) {
            return x.day;
        }
        int comes = comes(l);
        if (rule == 1 || comes < 0) {
            return comes;
        }
        int day = -1;
        for (Letter y : letters) {
            if (y.named == l && y.isAnswering() && y.writer == x.reader && y.reader == x.writer && y.day >= comes
                && comes(y.number) >= 0 && (day < 0 || comes(y.number) < day)) {
                day = comes(y.number);
            }
        }
        return day;
    }

    private boolean keeps(int l, int d) {
        Letter x = letters.get(l);
        return theLaw().keep.applyAsInt(new int[] {season, taking(x.way, theLaw()), 0, 0, d - x.day, d}) != 0;
    }

    public int obeys(int l, int d) {
        return !isLetter(l) ? -5 : !in(d, letters.get(l).day, 999) ? -7 : keeps(l, d) ? 1 : 0;
    }

    public int line(int l) {
        if (!isLetter(l)) {
            return -5;
        }
        int comes = comes(l);
        if (comes < 0) {
            return -3;
        }
        if (!keeps(l, comes)) {
            return -1;
        }
        int more = 0;
        while (more < 200 && keeps(l, comes + more + 1)) {
            more++;
        }
        return comes + more - letters.get(l).day;
    }

    // ---- rings, games

    /** Letters of both, the last day, what the one wrote, had. */
    private int[] ring(int w, int n, ModelText text) {
        List<List<Integer>> toWhom = List.of(new ArrayList<>(), new ArrayList<>());
        int[] had = new int[2];
        int[] wrote = new int[2];
        int[] lastHad = {-1, -1};
        int lastDay = -1;
        for (int day = 0; day < n; day++) {
            for (int one = 0; one < 2; one++) {
                for (int comes : toWhom.get(one)) {
                    if (comes == day) {
                        had[one]++;
                        lastHad[one] = day;
                    }
                }
            }
            for (int one = 0; one < 2; one++) {
                int age = lastHad[one] < 0 ? 99 : day - lastHad[one];
                int[] names = {season, taking(w, text), had[one], wrote[one], age, day};
                if (wrote[one] < 40 && text.write.applyAsInt(names) > 0) {
                    wrote[one]++;
                    lastDay = day;
                    toWhom.get(1 - one).add(coming(w, day, text));
                }
            }
        }
        return new int[] {wrote[0] + wrote[1], lastDay, wrote[0], had[0]};
    }

    public int ring(int w, int n, int what) {
        return !isWay(w) ? -5 : !in(n, 0, 150) || !in(what, 0, 3) ? -7 : ring(w, n, theLaw())[what];
    }

    public int ends(int w, int n) {
        if (!isWay(w)) {
            return -5;
        }
        if (!in(n, 0, 150)) {
            return -7;
        }
        int found = 0;
        for (int t = 0; t < texts.size(); t++) {
            found += ring(w, n, texts.get(t))[1] < n / 2 ? 1 << t : 0;
        }
        return found;
    }

    private static final long NO = -(1L << 62);

    private static long part(long above, long below, int part) {
        for (long by = 2; by <= 5; by++) {
            while (above % by == 0 && below % by == 0) {
                above /= by;
                below /= by;
            }
        }
        return part == 0 ? above : below;
    }

    private static long power(long base, int k) {
        return k == 0 ? 1 : base * power(base, k - 1);
    }

    /** Times 100 to the power 6. */
    private static long moves(int right, int k) {
        long sum = 0;
        for (int i = 0; i <= k; i++) {
            sum += power(right, i) * power(100, 6 - i);
        }
        return sum;
    }

    public long ifs(int right, int k, int part) {
        return !in(right, 0, 100) || !in(k, 0, 6) || !in(part, 0, 1) ? NO : part(moves(right, k), power(100, 6), part);
    }

    public int many(int right, int letter, int each) {
        if (!in(right, 0, 100) || !in(letter, 1, 99) || !in(each, 0, 99)) {
            return -2;
        }
        for (int k = 0; k < 7; k++) {
            boolean best = true;
            for (int o = 0; o < 7; o++) {
                best &= moves(right, k) * (letter + o * each) >= moves(right, o) * (letter + k * each);
            }
            if (best) {
                return k;
            }
        }
        return -99;
    }

    // ---- asking again, surer ways, costs

    private long againCosts(int w, int t, int wait, int twice) {
        long there = 2 * taking(w, theLaw());
        long comes = there * wait;
        if (t < there) {
            comes += twice;
        }
        long loses = ways.get(w).loses;
        return (100 - loses) * comes + loses * ((t + there) * wait);
    }

    public int again(int w, int wait, int twice) {
        if (!isWay(w)) {
            return -5;
        }
        if (!in(wait, 0, 99) || !in(twice, 0, 9999)) {
            return -7;
        }
        long least = Long.MAX_VALUE;
        for (int t = 1; t <= 200; t++) {
            least = Math.min(least, againCosts(w, t, wait, twice));
        }
        int t = 1;
        while (againCosts(w, t, wait, twice) != least) {
            t++;
        }
        return t;
    }

    public long surer(int two, int part) {
        if (two < 0 || !isWay(two / 10) || !isWay(two % 10) || !in(part, 0, 1)) {
            return NO;
        }
        int a = ways.get(two / 10).loses;
        int b = ways.get(two % 10).loses;
        return two / 10 == two % 10 ? part(100 - a, 100, part) : part(10000 - a * b, 10000, part);
    }

    public int copies(int w, int sure) {
        if (!isWay(w)) {
            return -5;
        }
        if (!in(sure, 0, 100)) {
            return -7;
        }
        for (int n = 0; n <= 8; n++) {
            long allLost = power(ways.get(w).loses, n);
            if (allLost * 100 <= (100 - sure) * power(100, n)) {
                return n;
            }
        }
        return -1;
    }

    public int costs() {
        int sum = 0;
        for (int l = 0; l < letters.size(); l++) {
            sum += told(l, 9);
        }
        return sum;
    }

    public long odds(int l, int part) {
        if (!isLetter(l) || !in(part, 0, 1)) {
            return NO;
        }
        List<Integer> by = waysOf(letters.get(l));
        return surer(10 * by.get(0) + by.get(by.size() - 1), part);
    }

    public int drawn(int seed, int h, int what) {
        if (!in(seed, 0, 99999) || !in(h, 0, 2) || !in(what, 0, 2)) {
            return -2;
        }
        List<Integer> now = new ArrayList<>();
        long lot = seed + 1;
        for (int l = 0; l < letters.size(); l++) {
            int by = 0;
            for (int w = 0; w < ways.size(); w++) {
                lot = lot * 48271 % Integer.MAX_VALUE;
                by += lot % 100 < ways.get(w).loses ? 1 << w : 0;
            }
            now.add(by);
        }
        Behind b = behind(999, now);
        return what == 0 ? bits(l -> b.come[l]) : what == 1 ? Integer.bitCount(bits(l -> b.done[l])) : b.holds[h][0];
    }

    public int image() {
        image = new Image(new int[][] {held[0].clone(), held[1].clone(), held[2].clone()}, season, List.copyOf(lost), law);
        return letters.size();
    }

    public int back() {
        if (image == null) {
            return -3;
        }
        for (int h = 0; h < 3; h++) {
            held[h] = image.held[h].clone();
        }
        season = image.season;
        law = image.law;
        lost = new ArrayList<>(image.lost);
        while (letters.size() > lost.size()) {
            letters.remove(letters.size() - 1);
        }
        return letters.size();
    }

    // ---- the host

    public int sheet(int s, int sort, int n) {
        if (!in(s, 0, 3) || !in(sort, -1, 2)) {
            return -2;
        }
        if (sort == -1) {
            sheets[s] = null;
            return 1;
        }
        if (n > 40) {
            return -2;
        }
        if (n < 0) {
            return -14;
        }
        sheets[s] = new int[n];
        sorts[s] = sort;
        return 1;
    }

    public int cell(int s, int i, int v) {
        if (!in(s, 0, 3)) {
            return -2;
        }
        if (sheets[s] == null) {
            return -11;
        }
        if (!in(i, 0, sheets[s].length - 1)) {
            return -12;
        }
        int bits = 32 - (8 << sorts[s]);
        sheets[s][i] = v << bits >> bits;
        return 1;
    }

    public int copy(int s, int i, int other, int j, int n) {
        if (!in(s, 0, 3) || !in(other, 0, 3)) {
            return -2;
        }
        if (sheets[s] == null || sheets[other] == null) {
            return -11;
        }
        if (sorts[s] != sorts[other]) {
            return -13;
        }
        boolean inside = n >= 0 && i >= 0 && j >= 0 && (long) i + n <= sheets[s].length && (long) j + n <= sheets[other].length;
        if (!inside) {
            return -12;
        }
        int[] were = sheets[s].clone();
        for (int k = 0; k < n; k++) {
            sheets[other][j + k] = were[i + k];
        }
        return n;
    }

    public int lettersBy(int s, int sort, int at, int n) {
        if (!in(s, 0, 3) || !in(sort, 0, 2) || !in(n, 0, 8)) {
            return -2;
        }
        if (sheets[s] == null) {
            return -11;
        }
        if (sorts[s] != sort) {
            return -13;
        }
        int came = 0;
        for (int k = 0; k < n; k++) {
            long from = at + 5L * k;
            if (!in(from, 0, sheets[s].length - 5)) {
                return -12;
            }
            int[] five = Arrays.copyOfRange(sheets[s], (int) from, (int) from + 5);
            if (write(five[0], five[1], five[2], five[3], five[4]) >= 0) {
                came++;
            }
        }
        return came;
    }

    public int taken(int i, int kind) {
        if (!in(kind, 0, 6)) {
            return -2;
        }
        if (!in(i, 0, 19)) {
            return -12;
        }
        if (i < 4) {
            return !isWay(i) ? -11 : kind == 6 ? ways.get(i).cost : -13;
        }
        if (!isLetter(i - 4)) {
            return -11;
        }
        Letter x = letters.get(i - 4);
        boolean[] is = {true, x.isAsking(), x.isAnswering(), x.kind == 3, x.kind == 4, x.kind == 5, false};
        return is[kind] ? i - 4 : -13;
    }
}
