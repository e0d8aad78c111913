/** Promises 32 to 35: rings that go on or end, games by letters. */
public final class RingsTest {
    private static final Due DUE = new Due("RingsTest");

    public static void main(String[] args) {
        ring();
        ringByText();
        ends();
        ifs();
        many();
        DUE.close();
    }

    private static void due(String call, long got, long want) {
        DUE.due(call, got, want);
    }

    private static void rings(LettersThatCross x, int w, int n, int... want) {
        for (int what = 0; what < 4; what++) {
            due("ring(" + w + ", " + n + ", " + what + ")", x.ring(w, n, what), want[what]);
        }
    }

    private static void ring() {
        LettersThatCross x = new LettersThatCross();
        due("by no way", x.ring(0, 151, 4), -5);
        x.way(10, 7, 100, 0);
        due("way 1 of one", x.ring(1, 0, 0), -5);
        due("way -1", x.ring(-1, 0, 0), -5);
        due("n 151", x.ring(0, 151, 0), -7);
        due("n -1", x.ring(0, -1, 0), -7);
        due("what 4", x.ring(0, 0, 4), -7);
        due("what -1", x.ring(0, 0, -1), -7);
        rings(x, 0, 0, 0, -1, 0, 0);
        rings(x, 0, 1, 2, 0, 1, 0);
        rings(x, 0, 10, 2, 0, 1, 0);
        rings(x, 0, 11, 4, 10, 2, 1);
        rings(x, 0, 24, 4, 10, 2, 1);
        rings(x, 0, 25, 6, 24, 3, 2);
        rings(x, 0, 150, 22, 150 - 14, 11, 10);
        x.turn(1);
        rings(x, 0, 25, 4, 20, 2, 1);
        x.turn(2);
        rings(x, 0, 25, 2, 0, 1, 0);
        due("no letter of these", x.count(1), 0);
    }

    private static void ringByText() {
        LettersThatCross x = new LettersThatCross();
        x.way(3, 1, 0, 0);
        x.way(100 - 10, 1, 0, 0);
        Due.text(x, "late 0;write 1;keep 0;");
        Due.text(x, "late 2;write age = 99 or age = 1;keep 0;");
        Due.text(x, "late 0;write had < 2 and wrote < 3 and day < 9;keep 0;");
        Due.text(x, "late 2;write (long = 5) * (season = 4);keep 0;");
        Due.text(x, "late 0;write (wrote = 0) - (0 < wrote) + (age = 100)*2;keep 0;");
        x.force(1);
        rings(x, 0, 39, 78, 38, 39, 36);
        rings(x, 0, 40, 80, 39, 40, 37);
        rings(x, 0, 41, 80, 39, 40, 38);
        rings(x, 0, 150, 80, 39, 40, 40);
        x.force(2);
        // Written on days 0 to 4, as none has come; had on 5 to 9, at age 1 on day 10; had on day 15, at age 1 on 16.
        rings(x, 0, 5, 10, 4, 5, 0);
        rings(x, 0, 10, 10, 4, 5, 5);
        rings(x, 0, 11, 12, 10, 6, 5);
        rings(x, 0, 30, 18, 28, 9, 8);
        x.force(3);
        rings(x, 0, 30, 6, 2, 3, 3);
        x.force(4);
        rings(x, 0, 30, 0, -1, 0, 0);
        x.turn(4);
        rings(x, 0, 30, 60, 29, 30, 25);
        rings(x, 1, 30, 0, -1, 0, 0);
        x.force(5);
        rings(x, 0, 104, 4, 103, 2, 1);
        rings(x, 0, 103, 2, 0, 1, 1);
    }

    private static void ends() {
        LettersThatCross x = new LettersThatCross();
        due("by no way", x.ends(0, 151), -5);
        x.way(3, 1, 0, 0);
        due("way -1", x.ends(-1, 0), -5);
        due("n 151", x.ends(0, 151), -7);
        due("n -1", x.ends(0, -1), -7);
        Due.text(x, "late 0;write 1;keep 0;");
        Due.text(x, "late 0;write 0;keep 0;");
        Due.text(x, "late 0;write day < 10;keep 0;");
        Due.text(x, "late 5;write day = 0 or day = long;keep 0;");
        due("of no days", x.ends(0, 0), 31);
        due("of one day", x.ends(0, 1), 4);
        due("of 16 days", x.ends(0, 16), 4);
        due("of 17 days", x.ends(0, 17), 4);
        due("of 18 days", x.ends(0, 18), 4 | 16);
        due("of 19 days", x.ends(0, 19), 4 | 16);
        due("of 20 days", x.ends(0, 20), 4 | 8 | 16);
        due("of 79 days", x.ends(0, 79), 4 | 8 | 16);
        due("of 80 days", x.ends(0, 80), 2 | 4 | 8 | 16);
        due("of 150 days", x.ends(0, 150), 2 | 4 | 8 | 16);
        due("the law still", x.count(4), 0);
        due("its days still", x.arrive(0, 0), 3);
        x.force(4);
        due("whatever the law", x.ends(0, 18), 4 | 16);
    }

    private static void ifs() {
        LettersThatCross x = new LettersThatCross();
        long no = -4611686018427387904L;
        due("right 101", x.ifs(101, 0, 0), no);
        due("right -1", x.ifs(-1, 0, 0), no);
        due("k 7", x.ifs(0, 7, 0), no);
        due("k -1", x.ifs(0, -1, 0), no);
        due("part 2", x.ifs(0, 0, 2), no);
        due("part -1", x.ifs(0, 0, -1), no);
        long[][] want = {{0, 6, 1, 1}, {100, 6, 7, 1}, {50, 2, 7, 4}, {1, 1, 101, 100}, {1, 6, 1010101010101L, 1000000000000L},
            {99, 6, 6793465209301L, 1000000000000L}, {25, 2, 21, 16}, {40, 1, 7, 5}, {37, 0, 1, 1}, {80, 2, 61, 25}};
        for (long[] w : want) {
            due("ifs(" + w[0] + ", " + w[1] + ", 0)", x.ifs((int) w[0], (int) w[1], 0), w[2]);
            due("ifs(" + w[0] + ", " + w[1] + ", 1)", x.ifs((int) w[0], (int) w[1], 1), w[3]);
        }
    }

    private static void many() {
        LettersThatCross x = new LettersThatCross();
        due("right 101", x.many(101, 1, 0), -2);
        due("right -1", x.many(-1, 1, 0), -2);
        due("letter 0", x.many(0, 0, 0), -2);
        due("letter 100", x.many(0, 100, 0), -2);
        due("each -1", x.many(0, 1, -1), -2);
        due("each 100", x.many(0, 1, 100), -2);
        due("nothing more", x.many(0, 99, 0), 0);
        due("always right, for nothing", x.many(100, 99, 0), 6);
        due("always right, like ones", x.many(100, 9, 9), 0);
        due("always right, a little less", x.many(100, 10, 9), 6);
        due("always right, a little more", x.many(100, 9, 10), 0);
        due("50 of 100, like ones", x.many(50, 2, 1), 0);
        due("50 of 100", x.many(50, 3, 1), 1);
        due("like ones in the midst", x.many(50, 4, 1), 1);
        due("50 of 100, 6 and 1", x.many(50, 6, 1), 2);
        due("50 of 100, 9 and 1", x.many(50, 9, 1), 2);
        due("99 of 100", x.many(99, 99, 99), 0);
        due("99 of 100, a little less", x.many(99, 99, 90), 3);
        for (int right = 0; right <= 100; right += 5) {
            for (int letter = 1; letter < 100; letter += 7) {
                for (int each = 0; each < 100; each += 9) {
                    due("many(" + right + ", " + letter + ", " + each + ")", x.many(right, letter, each), best(right, letter, each));
                }
            }
        }
    }

    private static int best(int right, int letter, int each) {
        java.math.BigInteger above = java.math.BigInteger.ONE;
        java.math.BigInteger below = java.math.BigInteger.valueOf(letter);
        int best = 0;
        java.math.BigInteger sum = java.math.BigInteger.ONE;
        for (int k = 1; k <= 6; k++) {
            sum = sum.multiply(java.math.BigInteger.valueOf(100)).add(java.math.BigInteger.valueOf(right).pow(k));
            java.math.BigInteger cost = java.math.BigInteger.valueOf(100).pow(k).multiply(java.math.BigInteger.valueOf(letter + k * each));
            if (sum.multiply(below).compareTo(above.multiply(cost)) > 0) {
                best = k;
                above = sum;
                below = cost;
            }
        }
        return best;
    }
}
