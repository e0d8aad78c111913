/** Promises 36 to 43 at their bounds: asking again, surer ways, copies, costs, odds, letters drawn, images. */
public final class CostsEdgesTest {
    private static final Edges EDGES = new Edges("CostsEdgesTest");
    private static final long NO = -4611686018427387904L;

    public static void main(String[] args) {
        again();
        againAtTheBounds();
        surer();
        surerOfAll();
        copies();
        copiesAtTheBounds();
        costs();
        odds();
        drawn();
        lots();
        lotsOfEachWay();
        image();
        back();
        backOfLetters();
        EDGES.close();
    }

    private static void due(String calls, long want) {
        EDGES.due(calls, want);
    }

    private static long[] at(long number, long answer) {
        return Edges.at(number, answer);
    }

    private static void again() {
        EDGES.number(States.WAYS, "again # 0 1", at(0, 10), at(1, 20), -5);
        EDGES.number(States.WAYS, "again 0 # 1", at(0, 10), at(99, 10), -7);
        EDGES.number(States.WAYS, "again 1 1 #", at(0, 1), at(9999, 20), -7);
        EDGES.number(States.FOUR_WAYS, "again # 0 9999", at(0, 10), at(3, 2), -5);
        EDGES.outside(States.WAYS, "again # 100 10000", 0, 1, -5);
        EDGES.outside(States.FULL, "again 3 # 0", 0, 99, -7);
        EDGES.outside(States.BACK, "again 2 0 #", 0, 9999, -7);
        EDGES.refused("", "again 0 0 0", -5);
        EDGES.refused("", "again 0 100 0", -5);
    }

    /** t 1 to 200; asked twice if t is below 2 d; of like ones the least. */
    private static void againAtTheBounds() {
        String late = "way 90 1 50 0 | read late ";
        due(late + "9;write 0;keep 0;| force 1 | again 0 1 9999", 198);
        due(late + "10;write 0;keep 0;| force 1 | again 0 1 9999", 200);
        due(late + "11;write 0;keep 0;| force 1 | again 0 1 9999", 1);
        due(late + "99;write 0;keep 0;| force 1 | again 0 0 9999", 1);
        due(late + "-99;write 0;keep 0;| force 1 | again 0 0 9999", 2);
        due("way 1 1 50 0 | again 0 1 0", 1);
        due("way 1 1 50 0 | again 0 1 1", 1);
        due("way 1 1 50 0 | again 0 1 2", 2);
        due("way 1 1 50 0 | again 0 0 1", 2);
        due("way 1 1 50 0 | again 0 0 0", 1);
        due("way 1 1 100 0 | again 0 99 9999", 1);
        due("way 1 1 100 0 | again 0 0 9999", 1);
        due("way 1 1 0 0 | again 0 99 1", 2);
        due("way 1 1 0 0 | again 0 99 0", 1);
        due("way 1 1 99 0 | again 0 99 9800", 1);
        due("way 1 1 99 0 | again 0 99 9801", 1);
        due("way 1 1 99 0 | again 0 99 9802", 2);
        due("way 5 30 0 0 | again 0 0 1", 10);
    }

    private static void surer() {
        long[] none = {2, 20, 22, 3, 9, 12, 19, 21, 90, 99, 100, 101, -1, -9, -10, -11, Integer.MIN_VALUE, Integer.MAX_VALUE};
        EDGES.refusedEach(States.WAYS, "surer # 0", NO, none);
        EDGES.refusedEach("", "surer # 0", NO, 0, 1, 10, 11, -1);
        EDGES.refusedEach(States.FULL, "surer # 1", NO, 4, 40, 44, 34, 43, 100);
        EDGES.number(States.WAYS, "surer 11 #", at(0, 4), at(1, 5), NO);
        EDGES.outside(States.WAYS, "surer 2 #", 0, 1, NO);
        EDGES.outside(States.BACK, "surer 0 #", 0, 1, NO);
    }

    private static void surerOfAll() {
        String ways = "way 1 1 0 0 | way 1 1 100 0 | way 1 1 1 0 | way 1 1 99 0 | ";
        long[][] parts = {{0, 1, 1}, {11, 0, 1}, {22, 99, 100}, {33, 1, 100}, {1, 1, 1}, {10, 1, 1}, {12, 99, 100}, {21, 99, 100},
            {13, 1, 100}, {31, 1, 100}, {23, 9901, 10000}, {32, 9901, 10000}, {2, 1, 1}, {30, 1, 1}};
        for (long[] p : parts) {
            due(ways + "surer " + p[0] + " 0", p[1]);
            due(ways + "surer " + p[0] + " 1", p[2]);
        }
        due("way 1 1 100 0 | way 1 1 100 0 | surer 1 0", 0);
        due("way 1 1 100 0 | way 1 1 100 0 | surer 1 1", 1);
        due("way 1 1 50 0 | way 1 1 50 0 | surer 1 0", 3);
        due("way 1 1 50 0 | way 1 1 50 0 | surer 0 0", 1);
    }

    private static void copies() {
        EDGES.number(States.WAYS, "copies # 100", at(0, 1), at(1, -1), -5);
        EDGES.number(States.WAYS, "copies 1 #", at(0, 0), at(100, -1), -7);
        EDGES.number(States.FOUR_WAYS, "copies # 99", at(0, 1), at(3, 7), -5);
        EDGES.outside(States.WAYS, "copies # 101", 0, 1, -5);
        EDGES.outside(States.FULL, "copies 3 #", 0, 100, -7);
        EDGES.outside(States.BACK, "copies 2 #", 0, 100, -7);
        EDGES.refused("", "copies 0 0", -5);
        EDGES.refused("", "copies 0 101", -5);
    }

    private static void copiesAtTheBounds() {
        long[][] all = {{0, 0, 0}, {0, 1, 1}, {0, 100, 1}, {100, 0, 0}, {100, 1, -1}, {100, 100, -1}, {1, 99, 1}, {1, 100, -1},
            {99, 0, 0}, {99, 1, 1}, {99, 2, 3}, {99, 7, 8}, {99, 8, -1}, {50, 50, 1}, {50, 51, 2}, {50, 75, 2}, {50, 76, 3},
            {50, 99, 7}, {10, 99, 2}, {10, 100, -1}, {56, 99, 8}, {57, 99, -1}};
        for (long[] a : all) {
            due("way 1 1 " + a[0] + " 0 | copies 0 " + a[1], a[2]);
        }
    }

    private static void costs() {
        due("costs", 0);
        due(States.FOUR_WAYS + " | costs", 0);
        due("way 1 1 0 0 | write 4 1 0 9 -1 | costs", 0);
        due("way 1 1 0 99 | write 0 1 0 0 -1 | costs", 99);
        due("way 1 1 0 99 | write 4 1 0 9 -1 | costs", 198);
        due("way 1 1 0 99 | write 4 1 0 9 -1" + " | write 4 1 0 9 -1".repeat(15) + " | costs", 3168);
        due("way 1 1 0 99 | write 4 1 0 9 -1" + " | write 4 1 0 9 -1".repeat(16) + " | costs", 3168);
        due("way 1 1 0 99 | write 0 1 0 0 -1 | lose 0 1 | costs", 99);
        due("way 1 1 0 99 | image | write 0 1 0 0 -1 | back | costs", 0);
    }

    private static void odds() {
        EDGES.number(States.LETTERS, "odds # 0", at(0, 1), at(4, 1), NO);
        EDGES.number(States.LETTERS, "odds 2 #", at(0, 4), at(1, 5), NO);
        EDGES.number(States.FULL, "odds # 1", at(0, 1), at(15, 2), NO);
        EDGES.outside(States.LETTERS, "odds 5 #", 0, 1, NO);
        EDGES.outside(States.BACK, "odds # 0", 0, 4, NO);
        EDGES.refused("", "odds 0 0", NO);
        EDGES.refused(States.WAYS, "odds 0 0", NO);
        String ways = "way 1 1 0 0 | way 1 1 100 0 | way 1 1 50 0 | way 1 1 10 0 | write ";
        String[] letters = {"0 1 0 0 -1", "0 1 0 100 -1", "4 1 0 101 -1", "4 1 0 102 -1", "4 1 0 203 -1", "4 1 0 205 -1", "4 1 0 9 -1",
            "0 1 0 203 -1", "4 1 0 202 -1"};
        long[][] parts = {{1, 1}, {0, 1}, {0, 1}, {1, 2}, {19, 20}, {1, 2}, {1, 1}, {1, 2}, {1, 2}};
        for (int i = 0; i < letters.length; i++) {
            due(ways + letters[i] + " | odds 0 0", parts[i][0]);
            due(ways + letters[i] + " | odds 0 1", parts[i][1]);
            due(ways + letters[i] + " | lose 0 15 | odds 0 0", parts[i][0]);
        }
    }

    private static void drawn() {
        EDGES.number(States.LETTERS, "drawn # 1 2", at(0, 7), at(99999, 7), -2);
        EDGES.number(States.LETTERS, "drawn 0 # 2", at(0, 0), at(2, 0), -2);
        EDGES.number(States.LETTERS, "drawn 0 1 #", at(0, 31), at(2, 7), -2);
        EDGES.outside("", "drawn # 0 0", 0, 99999, -2);
        EDGES.outside("", "drawn 0 # 0", 0, 2, -2);
        EDGES.outside("", "drawn 0 0 #", 0, 2, -2);
        EDGES.outside(States.FULL, "drawn # 0 1", 0, 99999, -2);
        EDGES.outside(States.BACK, "drawn 0 # 1", 0, 2, -2);
        due("hold 2 0 9 | drawn 99999 2 2", 9);
        due("hold 2 0 9 | hold 2 1 3 | hold 1 0 4 | way 1 1 100 0 | write 1 12 0 7 -1 | drawn 0 2 2", 9);
        due("way 90 30 0 0 | turn 9 | write 1 1 400 9 -1 | drawn 0 1 2", 9);
        due("way 5 1 0 0 | write 0 1 0 0 -1 | lose 0 1 | drawn 0 0 0", 1);
        due("way 5 1 100 0 | write 1 1 0 0 -1 | drawn 0 0 1", 0);
        due("way 5 1 0 0 | write 1 1 0 0 -1 | write 0 1 0 0 -1 | drawn 0 0 1", 1);
        due("way 5 1 0 0 | write 1 1 0 0 -1 | write 3 1 0 5 -1 | drawn 0 0 1", 1);
        due("way 5 1 0 0 | write 1 1 0 0 -1 | write 5 1 0 0 0 | drawn 0 0 1", 0);
        due("way 5 1 0 0 | write 1 1 0 0 -1" + " | write 1 1 0 0 -1".repeat(15) + " | drawn 0 0 1", 16);
        due("way 5 1 0 0 | write 1 1 0 0 -1" + " | write 1 1 0 0 -1".repeat(15) + " | drawn 0 0 0", 65535);
    }

    /** Of the one way and so many letters: the LOTS modulo 100 of seed 0 are 71, 94, .., of seed 7 68, 52, 0, 67, 99, .. */
    private static void lots() {
        due("way 5 1 71 0 | write 0 1 0 0 -1 | drawn 0 0 0", 1);
        due("way 5 1 72 0 | write 0 1 0 0 -1 | drawn 0 0 0", 0);
        due("way 5 1 94 0 | write 0 1 0 0 -1 | write 0 1 0 0 -1 | drawn 0 0 0", 2);
        due("way 5 1 95 0 | write 0 1 0 0 -1 | write 0 1 0 0 -1 | drawn 0 0 0", 0);
        due("way 5 1 6 0 | write 0 1 0 0 -1 | drawn 99999 0 0", 1);
        due("way 5 1 7 0 | write 0 1 0 0 -1 | drawn 99999 0 0", 0);
        due("way 5 1 59 0 | write 0 1 0 0 -1 | write 0 1 0 0 -1 | drawn 99999 0 0", 2);
        due("way 5 1 60 0 | write 0 1 0 0 -1 | write 0 1 0 0 -1 | drawn 99999 0 0", 0);
        String five = " | write 0 1 0 0 -1".repeat(5);
        due("way 5 1 0 0" + five + " | drawn 7 0 0", 31);
        due("way 5 1 1 0" + five + " | drawn 7 0 0", 27);
        due("way 5 1 52 0" + five + " | drawn 7 0 0", 27);
        due("way 5 1 53 0" + five + " | drawn 7 0 0", 25);
        due("way 5 1 99 0" + five + " | drawn 7 0 0", 16);
        due("way 5 1 100 0" + five + " | drawn 7 0 0", 0);
    }

    /** For each letter a LOT of each way that there is one, its own or not. */
    private static void lotsOfEachWay() {
        // Of seed 0: 71, 94, 86, 37, 41, 83, 61, 5; letter 1 by way 1 has the fourth of them.
        String two = " | write 0 1 0 0 -1 | write 0 1 0 100 -1";
        due("way 5 1 71 0 | way 5 1 37 0" + two + " | drawn 0 0 0", 3);
        due("way 5 1 72 0 | way 5 1 38 0" + two + " | drawn 0 0 0", 0);
        due("way 5 1 71 0 | way 5 1 38 0" + two + " | drawn 0 0 0", 1);
        due("way 5 1 72 0 | way 5 1 37 0" + two + " | drawn 0 0 0", 2);
        due("way 5 1 72 0 | way 5 1 94 0 | write 4 1 0 1 -1 | drawn 0 0 0", 1);
        due("way 5 1 72 0 | way 5 1 95 0 | write 4 1 0 1 -1 | drawn 0 0 0", 0);
        due("way 5 1 71 0 | way 5 1 95 0 | write 4 1 0 1 -1 | drawn 0 0 0", 1);
        // Of 16 letters and four ways: by way 3 the LOTS are 37, 5, 7, 39, 95, 87, 80, 52, 67, 5, 57, 68, 16, 35, 57, 59.
        String sixteen = " | write 0 1 0 300 -1".repeat(16) + " | drawn 0 0 0";
        String three = "way 5 1 0 0 | way 5 1 0 0 | way 5 1 0 0 | ";
        due(three + "way 5 1 59 0" + sixteen, 16 | 32 | 64 | 256 | 2048 | 32768);
        due(three + "way 5 1 60 0" + sixteen, 16 | 32 | 64 | 256 | 2048);
    }

    private static void image() {
        due("image", 0);
        due(States.LETTERS + " | image", 5);
        due(States.FULL + " | image", 16);
        due("image | image", 0);
        EDGES.refused("", "back", -3);
        EDGES.refused(States.LETTERS, "back", -3);
        due("image | back", 0);
        due("image | back | back", 0);
        due(States.FULL + " | back", 16);
        due(States.BACK + " | back", 5);
    }

    private static void back() {
        due("image | hold 0 0 9 | back | hold 0 0 0", 0);
        due("hold 2 3 9 | image | hold 2 3 0 | back | hold 2 3 0", 9);
        due("image | turn 9 | back | turn 0", 0);
        due("turn 9 | image | turn 0 | back | turn 0", 9);
        due("read late 0;write 0;keep 0;| image | force 1 | back | force 0", 0);
        due("read late 0;write 0;keep 0;| force 1 | image | force 0 | back | force 0", 1);
        due("image | read late 0;write 0;keep 0;| force 1 | back | count 3", 2);
        due("image | read late 0;write 0;keep 0;| force 1 | back | count 4", 0);
        due("image | way 1 1 0 0 | back | count 0", 1);
        due("image | feed 0 8 | back | count 5", 8);
        due("image | sheet 0 2 5 | back | cell 0 4 0", 1);
        due("sheet 0 2 5 | image | sheet 0 -1 0 | back | cell 0 4 0", -11);
        due("sheet 0 2 5 | cell 0 1 1 | cell 0 4 -1 | image | cell 0 1 0 | way 1 1 0 0 | back | lettersBy 0 2 0 1", 0);
        due(States.FULL + " | back | hold 2 3 0", 0);
        due("turn 1 | image | turn 2 | image | turn 3 | back | count 2", 2);
        due("turn 1 | image | turn 2 | back | turn 3 | back | count 2", 1);
    }

    private static void backOfLetters() {
        String one = "way 5 1 0 0 | write 1 1 0 7 -1 | ";
        due(one + "image | write 0 1 0 0 0 | back", 1);
        due(one + "image | write 0 1 0 0 0 | back | told 1 0", -5);
        due(one + "image | write 0 1 0 0 0 | back | taken 5 0", -11);
        due(one + "image | write 0 1 400 0 0 | back | write 0 1 0 0 -1", 1);
        due(one + "image | lose 0 1 | back | told 0 8", 5);
        due(one + "lose 0 1 | image | lose 0 0 | back | told 0 8", -1);
        due(one + "image | back | told 0 8", 5);
        due("image | " + one + "back", 0);
        due("image | " + one + "back | holdsThen 1 0 999", 0);
        due("image | " + one + "back | write 0 1 0 0 0", -2);
        due("image | " + one + "image | back | told 0 6", 7);
        String full = " | write 0 1 400 0 -1".repeat(15);
        due(one + "image" + full + " | write 0 1 400 0 -1", -4);
        due(one + "image" + full + " | back | write 0 1 0 0 -1", 1);
        due("way 5 1 0 0 | image | write 0 1 0 0 -1 | lose 0 1 | back | write 0 1 0 0 -1 | told 0 8", 5);
        due("way 5 1 0 0 | write 0 1 0 0 -1 | image | way 1 1 0 0 | lose 0 3 | back | lose 0 0", 0);
    }
}
