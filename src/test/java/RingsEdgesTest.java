/** Promises 32 to 35 at their bounds: rings, texts by which they end, ifs in a game. */
public final class RingsEdgesTest {
    private static final Edges EDGES = new Edges("RingsEdgesTest");
    private static final long NO = -4611686018427387904L;

    public static void main(String[] args) {
        ring();
        ringDays();
        fortyLetters();
        lettersComeInTime();
        namesOfWrite();
        ends();
        endsFromTheHalf();
        ifs();
        many();
        EDGES.close();
    }

    private static void due(String calls, long want) {
        EDGES.due(calls, want);
    }

    private static long[] at(long number, long answer) {
        return Edges.at(number, answer);
    }

    /** Letters of both, the last day, what the one wrote, had: of n days by way 0. */
    private static void rings(String made, int n, long... want) {
        for (int what = 0; what < 4; what++) {
            due(made + " | ring 0 " + n + " " + what, want[what]);
        }
    }

    private static String byWrite(String way, String write) {
        return way + " | read late 0;write " + write + ";keep 0;| force 1";
    }

    private static void ring() {
        EDGES.number(States.WAYS, "ring # 150 0", at(0, 60), at(1, 22), -5);
        EDGES.number(States.WAYS, "ring 0 # 0", at(0, 0), at(150, 60), -7);
        EDGES.number(States.WAYS, "ring 0 150 #", at(0, 60), at(3, 29), -7);
        EDGES.number(States.FULL, "ring # 150 0", at(0, 80), at(3, 80), -5);
        EDGES.outside(States.WAYS, "ring # 151 4", 0, 1, -5);
        EDGES.outside(States.BACK, "ring 2 # 0", 0, 150, -7);
        EDGES.outside(States.BACK, "ring 2 0 #", 0, 3, -7);
        EDGES.refused("", "ring 0 0 0", -5);
        EDGES.refused("", "ring 0 151 4", -5);
    }

    private static void ringDays() {
        rings("way 5 1 0 0", 0, 0, -1, 0, 0);
        rings("way 5 1 0 0", 1, 2, 0, 1, 0);
        rings("way 5 1 0 0", 5, 2, 0, 1, 0);
        rings("way 5 1 0 0", 6, 4, 5, 2, 1);
        rings("way 5 1 0 0", 145, 58, 140, 29, 28);
        rings("way 5 1 0 0", 146, 60, 145, 30, 29);
        rings("way 5 1 0 0", 150, 60, 145, 30, 29);
        rings("way 1 1 0 0", 40, 80, 39, 40, 39);
        rings("way 90 1 0 0 | turn 9", 150, 2, 0, 1, 0);
        rings("way 90 30 0 0", 150, 4, 90, 2, 1);
        rings("way 5 1 100 0", 6, 4, 5, 2, 1);
        rings("way 5 1 0 0 | ring 0 150 0", 6, 4, 5, 2, 1);
        rings("way 5 1 0 0 | ring 0 150 0", 0, 0, -1, 0, 0);
    }

    /** 40 each at most. */
    private static void fortyLetters() {
        String always = byWrite("way 5 1 0 0", "1");
        rings(always, 0, 0, -1, 0, 0);
        rings(always, 1, 2, 0, 1, 0);
        rings(always, 39, 78, 38, 39, 34);
        rings(always, 40, 80, 39, 40, 35);
        rings(always, 41, 80, 39, 40, 36);
        rings(always, 44, 80, 39, 40, 39);
        rings(always, 45, 80, 39, 40, 40);
        rings(always, 150, 80, 39, 40, 40);
        rings(byWrite("way 90 30 0 0", "1"), 150, 80, 39, 40, 31);
        rings(byWrite("way 1 1 0 0", "109 < day"), 150, 80, 149, 40, 39);
        rings(byWrite("way 1 1 0 0", "108 < day"), 150, 80, 148, 40, 40);
        rings("way 1 1 0 0", 150, 80, 39, 40, 40);
    }

    private static void lettersComeInTime() {
        rings("way 90 1 0 0 | read late 58;write wrote = 0;keep 0;| force 1", 150, 2, 0, 1, 1);
        rings("way 90 1 0 0 | read late 59;write wrote = 0;keep 0;| force 1", 150, 2, 0, 1, 1);
        rings("way 90 1 0 0 | read late 60;write wrote = 0;keep 0;| force 1", 150, 2, 0, 1, 0);
        rings("way 90 1 0 0 | read late 99;write wrote = 0;keep 0;| force 1", 150, 2, 0, 1, 0);
        rings("way 90 1 0 0 | read late 59;write wrote = 0;keep 0;| force 1", 149, 2, 0, 1, 0);
        rings("way 1 30 0 0 | read late 0;write day = 1 or day = 30;keep 0;| force 1", 31, 4, 30, 2, 0);
        rings("way 1 30 0 0 | read late 0;write day = 1 or day = 30;keep 0;| force 1", 32, 4, 30, 2, 2);
    }

    private static void namesOfWrite() {
        String way = "way 5 1 0 0";
        rings(byWrite(way, "0"), 150, 0, -1, 0, 0);
        rings(byWrite(way, "0 - 1"), 150, 0, -1, 0, 0);
        rings(byWrite(way, "8192*8192*32"), 150, 0, -1, 0, 0);
        rings(byWrite(way, "8192*8192*32 - 1"), 3, 6, 2, 3, 0);
        rings(byWrite(way, "age = 99"), 108, 10, 4, 5, 5);
        rings(byWrite(way, "age = 99"), 109, 12, 108, 6, 5);
        rings(byWrite(way, "98 < age"), 5, 10, 4, 5, 0);
        rings(byWrite(way, "wrote = 0 or age = 0"), 11, 6, 10, 3, 2);
        rings(byWrite(way, "wrote = 0 or age = 99"), 150, 12, 108, 6, 6);
        rings(byWrite(way, "wrote = 0 or age = 100"), 150, 4, 105, 2, 2);
        rings(byWrite(way, "had = 0"), 150, 10, 4, 5, 5);
        rings(byWrite(way, "wrote < 1"), 150, 2, 0, 1, 1);
        rings(byWrite(way, "day = 0"), 150, 2, 0, 1, 1);
        rings(byWrite(way, "day = 149"), 150, 2, 149, 1, 0);
        rings(byWrite(way, "day = 149"), 149, 0, -1, 0, 0);
        rings(byWrite(way, "long = 5"), 1, 2, 0, 1, 0);
        rings("way 90 1 0 0 | read late 99;write long = 189;keep 0;| force 1", 1, 2, 0, 1, 0);
        rings("way 90 1 0 0 | read late -99;write long = 1;keep 0;| force 1", 2, 4, 1, 2, 1);
        rings("turn 9 | " + byWrite(way, "season = 9"), 1, 2, 0, 1, 0);
    }

    private static void ends() {
        EDGES.number(States.WAYS, "ends # 2", at(0, 1), at(1, 1), -5);
        EDGES.number(States.WAYS, "ends 0 #", at(0, 1), at(150, 0), -7);
        EDGES.number(States.FULL, "ends # 150", at(0, 62), at(3, 62), -5);
        EDGES.outside(States.WAYS, "ends # 151", 0, 1, -5);
        EDGES.outside(States.BACK, "ends 2 #", 0, 150, -7);
        EDGES.refused("", "ends 0 0", -5);
        EDGES.refused("", "ends 0 151", -5);
        due(States.FULL + " | ends 3 0", 63);
        due(States.FULL + " | ends 3 1", 6);
    }

    /** From day n by 2, cut, on. */
    private static void endsFromTheHalf() {
        String[] words = {"0", "wrote = 0", "day < 10", "day = 74", "day = 75"};
        long[][] ends = {{0, 63}, {1, 2 | 16 | 32}, {2, 1 | 2 | 4 | 16 | 32}, {3, 1 | 2 | 4 | 16 | 32}, {19, 2 | 4 | 16 | 32},
            {20, 2 | 4 | 8 | 16 | 32}, {21, 2 | 4 | 8 | 16 | 32}, {74, 2 | 4 | 8 | 16 | 32}, {75, 2 | 4 | 8 | 32}, {76, 2 | 4 | 8},
            {148, 2 | 4 | 8}, {149, 2 | 4 | 8}, {150, 2 | 4 | 8 | 16}};
        StringBuilder made = new StringBuilder("way 5 1 0 0 | ");
        for (String each : words) {
            made.append("read late 0;write ").append(each).append(";keep 0;| ");
        }
        for (long[] e : ends) {
            due(made + "ends 0 " + e[0], e[1]);
        }
        due("ends 0 0", -5);
        due("way 1 1 0 0 | ends 0 79", 0);
        due("way 1 1 0 0 | ends 0 80", 1);
        due("way 1 1 0 0 | ends 0 81", 1);
    }

    private static void ifs() {
        EDGES.number("", "ifs # 6 0", at(0, 1), at(100, 7), NO);
        EDGES.number("", "ifs # 6 1", at(0, 1), at(100, 1), NO);
        EDGES.number("", "ifs 50 # 0", at(0, 1), at(6, 127), NO);
        EDGES.number("", "ifs 50 6 #", at(0, 127), at(1, 64), NO);
        EDGES.outside(States.FULL, "ifs 100 # 0", 0, 6, NO);
        EDGES.outside(States.BACK, "ifs # 0 1", 0, 100, NO);
        long[][] parts = {{0, 0, 1, 1}, {100, 0, 1, 1}, {1, 1, 101, 100}, {99, 1, 199, 100}, {0, 1, 1, 1}, {100, 1, 2, 1},
            {1, 6, 1010101010101L, 1000000000000L}, {99, 6, 6793465209301L, 1000000000000L}, {20, 2, 31, 25}};
        for (long[] p : parts) {
            due("ifs " + p[0] + " " + p[1] + " 0", p[2]);
            due("ifs " + p[0] + " " + p[1] + " 1", p[3]);
        }
    }

    private static void many() {
        EDGES.number("", "many # 99 0", at(0, 0), at(100, 6), -2);
        EDGES.number("", "many 100 # 1", at(1, 0), at(99, 6), -2);
        EDGES.number("", "many 100 99 #", at(0, 6), at(99, 0), -2);
        EDGES.outside(States.FULL, "many # 1 0", 0, 100, -2);
        EDGES.outside(States.BACK, "many 0 # 0", 1, 99, -2);
        due("many 0 1 0", 0);
        due("many 0 99 99", 0);
        due("many 1 1 0", 6);
        due("many 100 1 99", 0);
        due("many 100 99 98", 6);
        due("many 50 2 1", 0);
        due("many 50 4 1", 1);
        due("many 99 99 99", 0);
        due("many 99 99 90", 3);
        due("many 50 3 1", 1);
        due("many 50 6 1", 2);
        due("many 90 10 1", 6);
    }
}
