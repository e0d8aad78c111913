/** Promises 44 to 48 at their bounds: sheets, cells, copies, letters by a sheet, what lies at a place. */
public final class HostEdgesTest {
    private static final Edges EDGES = new Edges("HostEdgesTest");
    private static final int MIN = Integer.MIN_VALUE;
    private static final int MAX = Integer.MAX_VALUE;
    private static final String EACH = "sheet 0 2 5 | sheet 1 2 5 | sheet 2 2 5 | sheet 3 2 5";
    /** A letter from place 0 on, then one from place 5 on. */
    private static final String LETTERS = "way 5 1 0 0 | sheet 0 2 12 | cell 0 1 1 | cell 0 4 -1 | cell 0 6 10 | cell 0 8 9 | cell 0 9 -1";

    public static void main(String[] args) {
        sheet();
        sheetAnew();
        cell();
        lowestBits();
        copy();
        copyPlaces();
        copyAsTheyWere();
        lettersBy();
        lettersByPlaces();
        lettersByLeftOut();
        taken();
        takenOfAKind();
        EDGES.close();
    }

    private static void due(String calls, long want) {
        EDGES.due(calls, want);
    }

    private static long[] at(long number, long answer) {
        return Edges.at(number, answer);
    }

    private static void sheet() {
        EDGES.number("", "sheet # 0 5", at(0, 1), at(3, 1), -2);
        EDGES.number("", "sheet 0 # 5", at(-1, 1), at(2, 1), -2);
        for (int sort = 0; sort < 3; sort++) {
            due("sheet 3 " + sort + " 0", 1);
            due("sheet 3 " + sort + " 40", 1);
            EDGES.refusedEach("", "sheet 3 " + sort + " #", -2, 41, MAX);
            EDGES.refusedEach("", "sheet 3 " + sort + " #", -14, -1, MIN);
            EDGES.refusedEach(States.SHEETS, "sheet 2 " + sort + " #", -2, 41, MAX);
            EDGES.refusedEach(States.SHEETS, "sheet 2 " + sort + " #", -14, -1, MIN);
        }
        EDGES.outside(States.FULL, "sheet # 0 -1", 0, 3, -2);
        EDGES.outside(States.BACK, "sheet 0 # -1", -1, 2, -2);
        EDGES.outside(States.SHEETS, "sheet # -1 0", 0, 3, -2);
        for (long n : new long[] {MIN, -1, 0, 40, 41, MAX}) {
            due(States.SHEETS + " | sheet 2 -1 " + n, 1);
            due(States.SHEETS + " | sheet 2 -1 " + n + " | cell 2 0 0", -11);
            due("sheet 2 -1 " + n, 1);
        }
    }

    /** All 0, whatever it was. */
    private static void sheetAnew() {
        due("sheet 0 0 40 | cell 0 39 1", 1);
        due("sheet 0 0 40 | cell 0 40 1", -12);
        due("sheet 0 0 0 | cell 0 0 1", -12);
        due("sheet 0 0 40 | sheet 0 0 1 | cell 0 1 1", -12);
        due("sheet 0 0 1 | sheet 0 0 40 | cell 0 39 1", 1);
        due("sheet 0 0 1 | sheet 1 0 0 | cell 0 0 1", 1);
        due(LETTERS + " | sheet 0 2 12 | lettersBy 0 2 0 2", 0);
        due(LETTERS + " | sheet 0 -1 0 | sheet 0 2 12 | lettersBy 0 2 0 2", 0);
        due(LETTERS + " | lettersBy 0 2 0 2", 2);
        due(LETTERS + " | sheet 0 2 5 | sheet 0 2 12 | lettersBy 0 2 5 1", 0);
        due("way 5 1 0 0 | write 0 1 0 0 -1 | sheet 0 2 40 | cell 0 1 1 | lettersBy 0 2 0 1", 1);
        due("sheet 0 0 5 | sheet 0 1 5 | lettersBy 0 0 0 0", -13);
        due("sheet 0 0 5 | sheet 0 1 5 | lettersBy 0 1 0 0", 0);
    }

    private static void cell() {
        EDGES.number(EACH, "cell # 4 0", at(0, 1), at(3, 1), -2);
        EDGES.outside("", "cell # 0 0", 0, 3, -2);
        EDGES.outside(States.FULL, "cell # 40 0", 0, 3, -2);
        EDGES.number(States.SHEETS, "cell 2 # 0", at(0, 1), at(39, 1), -12);
        EDGES.outside(States.SHEETS, "cell 1 # 0", 0, -1, -12);
        EDGES.number("sheet 3 0 1", "cell 3 # 0", at(0, 1), at(0, 1), -12);
        EDGES.outside("", "cell 0 # 0", 0, 0, -11);
        EDGES.refused("", "cell 0 0 0", -11);
        EDGES.refused(States.SHEETS, "cell 3 40 0", -11);
        EDGES.refused(States.SHEETS, "cell 4 40 0", -2);
        for (int sort = 0; sort < 3; sort++) {
            for (int v : new int[] {MIN, -1, 0, 1, 127, 128, 255, 256, 32767, 32768, 65535, 65536, MAX}) {
                due("sheet 0 " + sort + " 1 | cell 0 0 " + v, 1);
            }
        }
    }

    /** What a number became: the DAY, MORE (of what) and what a letter names, of a letter by the sheet. */
    private static void became(int sort, int v, int place, boolean comes) {
        String made = "way 5 1 0 0 | write 0 1 0 0 -1 | sheet 0 " + sort + " 5 | cell 0 1 1 | cell 0 " + place + " " + v;
        due(made + " | lettersBy 0 " + sort + " 0 1", comes ? 1 : 0);
    }

    private static void day(int sort, int v, int day) {
        String made = "way 5 1 0 0 | sheet 0 " + sort + " 5 | cell 0 1 1 | cell 0 4 -1 | cell 0 2 " + v + " | lettersBy 0 " + sort;
        due(made + " 0 1 | told 0 3", day < 0 ? -5 : day);
    }

    /** Of bytes the lowest 8 bits, of shorts 16, of ints all; the highest of them is the sign. */
    private static void lowestBits() {
        int[][] bytes = {{0, 0}, {127, 127}, {128, -1}, {255, -1}, {256, 0}, {257, 1}, {383, 127}, {384, -1}, {-1, -1}, {-128, -1},
            {-129, 127}, {-256, 0}, {MIN, 0}, {MAX, -1}, {65536, 0}, {400, -1}};
        for (int[] b : bytes) {
            day(0, b[0], b[1]);
        }
        int[][] shorts = {{0, 0}, {128, 128}, {255, 255}, {400, 400}, {401, -1}, {32767, -1}, {32768, -1}, {65535, -1}, {65536, 0},
            {65936, 400}, {65937, -1}, {-1, -1}, {-65536, 0}, {-65136, 400}, {MIN, 0}, {MAX, -1}};
        for (int[] s : shorts) {
            day(1, s[0], s[1]);
        }
        int[][] ints = {{0, 0}, {400, 400}, {401, -1}, {65536, -1}, {-1, -1}, {MIN, -1}, {MAX, -1}, {256, 256}};
        for (int[] i : ints) {
            day(2, i[0], i[1]);
        }
        int[][] named = {{0, -1, 1}, {0, 255, 1}, {0, 254, 0}, {0, 256, 1}, {0, 1, 0}, {1, -1, 1}, {1, 65535, 1}, {1, 65534, 0},
            {1, 65536, 1}, {1, 255, 0}, {2, -1, 1}, {2, 65535, 0}, {2, MAX, 0}, {2, MIN, 0}, {2, 0, 1}};
        for (int[] n : named) {
            became(n[0], n[1], 4, n[2] == 1);
        }
    }

    private static void copy() {
        EDGES.number(EACH, "copy # 0 1 0 5", at(0, 5), at(3, 5), -2);
        EDGES.number(EACH, "copy 2 0 # 0 5", at(0, 5), at(3, 5), -2);
        EDGES.outside("", "copy # 0 0 0 0", 0, 3, -2);
        EDGES.outside("", "copy 0 0 # 0 0", 0, 3, -2);
        EDGES.outside(States.FULL, "copy # 41 2 41 -1", 0, 3, -2);
        EDGES.outside(States.FULL, "copy 3 41 # 41 -1", 0, 3, -2);
        EDGES.refused("", "copy 0 0 0 0 0", -11);
        EDGES.refused("", "copy 0 41 1 41 -1", -11);
        EDGES.refused(States.SHEETS, "copy 3 0 2 0 0", -11);
        EDGES.refused(States.SHEETS, "copy 2 0 3 0 0", -11);
        EDGES.refused(States.SHEETS, "copy 2 41 3 41 -1", -11);
        for (int sort = 0; sort < 3; sort++) {
            for (int other = 0; other < 3; other++) {
                String two = "sheet 0 " + sort + " 5 | sheet 1 " + other + " 5";
                if (sort == other) {
                    due(two + " | copy 0 0 1 0 5", 5);
                } else {
                    EDGES.refused(two, "copy 0 0 1 0 5", -13);
                    EDGES.refused(two, "copy 0 0 1 0 0", -13);
                    EDGES.refused(two, "copy 0 -1 1 6 -1", -13);
                }
            }
        }
    }

    /** From a place on, to a place on, n of them: none outside. */
    private static void copyPlaces() {
        String two = "sheet 0 2 10 | sheet 1 2 6 | cell 0 0 7 | cell 0 9 8 | cell 1 5 9";
        long[][] inside = {{0, 0, 6}, {4, 0, 6}, {9, 5, 1}, {10, 6, 0}, {0, 0, 0}, {0, 6, 0}, {10, 0, 0}, {0, 5, 1}, {5, 1, 5}};
        for (long[] c : inside) {
            due(two + " | copy 0 " + c[0] + " 1 " + c[1] + " " + c[2], c[2]);
        }
        long[][] outside = {{0, 0, 7}, {5, 0, 6}, {0, 1, 6}, {10, 0, 1}, {0, 6, 1}, {11, 0, 0}, {0, 7, 0}, {-1, 0, 1}, {-1, 0, 0},
            {0, -1, 1}, {0, -1, 0}, {0, 0, -1}, {0, 0, MIN}, {0, 0, MAX}, {1, 1, MAX}, {MAX, 0, 0}, {MAX, 0, 1}, {MAX, 0, MAX},
            {0, MAX, 0}, {0, MAX, 1}, {0, MAX, MAX}, {MIN, 0, 1}, {0, MIN, 1}, {MIN, 0, MIN}, {MIN, MIN, MIN}, {MAX, MAX, MAX},
            {MAX, MAX, 2}, {5, 5, MIN}, {10, 6, MIN}, {MIN, MIN, 0}, {-5, 0, 10}, {1, 0, MAX}, {10, 6, MAX}, {10, 6, -1}};
        for (long[] c : outside) {
            EDGES.refused(two, "copy 0 " + c[0] + " 1 " + c[1] + " " + c[2], -12);
        }
        due("sheet 0 1 0 | copy 0 0 0 0 0", 0);
        due("sheet 0 1 0 | copy 0 0 0 0 1", -12);
        due("sheet 0 1 0 | sheet 1 1 40 | copy 1 40 0 0 0", 0);
        due("sheet 0 1 40 | sheet 1 1 40 | copy 0 0 1 0 40", 40);
        due("sheet 0 1 40 | sheet 1 1 40 | copy 0 0 1 0 41", -12);
        due("sheet 0 1 40 | copy 0 0 0 0 40", 40);
        due("sheet 0 1 40 | copy 0 39 0 0 1", 1);
    }

    /** Its own places that overlap, both ways: the letter came as it was. */
    private static void copyAsTheyWere() {
        String row = "way 5 1 0 0 | sheet 0 2 10 | cell 0 0 2 | cell 0 1 12 | cell 0 2 9 | cell 0 3 35 | cell 0 4 -1";
        long[] told = {2, 1, 2, 9, 0, 3, 5, -1};
        for (int what = 0; what < 8; what++) {
            for (int j = 0; j <= 5; j++) {
                String onward = row + " | copy 0 0 0 " + j + " 5 | lettersBy 0 2 " + j + " 1 | told 0 ";
                due(onward + what, told[what]);
                String back = row + " | copy 0 0 0 5 5 | copy 0 5 0 " + j + " 5 | lettersBy 0 2 " + j + " 1 | told 0 ";
                due(back + what, told[what]);
            }
            due(row + " | sheet 1 2 5 | copy 0 0 1 0 5 | lettersBy 1 2 0 1 | told 0 " + what, told[what]);
            due(row + " | sheet 1 2 5 | copy 0 0 1 0 5 | lettersBy 0 2 0 1 | told 0 " + what, told[what]);
        }
        due(row + " | sheet 1 2 5 | copy 0 0 1 0 4 | lettersBy 1 2 0 1", 0);
        due(row + " | sheet 1 2 6 | cell 1 5 -1 | copy 0 0 1 0 4 | copy 1 5 1 4 1 | lettersBy 1 2 0 1", 1);
    }

    private static void lettersBy() {
        EDGES.number(EACH, "lettersBy # 2 0 1", at(0, 0), at(3, 0), -2);
        EDGES.number(EACH, "lettersBy 3 2 0 #", at(0, 0), at(8, -12), -2);
        EDGES.outside("", "lettersBy # 0 0 0", 0, 3, -2);
        EDGES.outside("", "lettersBy 0 # 0 0", 0, 2, -2);
        EDGES.outside("", "lettersBy 0 0 0 #", 0, 8, -2);
        EDGES.outside(States.FULL, "lettersBy # 0 -1 8", 0, 3, -2);
        EDGES.outside(LETTERS, "lettersBy 0 # -1 8", 0, 2, -2);
        EDGES.outside(LETTERS, "lettersBy 0 2 0 #", 0, 8, -2);
        EDGES.outside(LETTERS, "lettersBy 0 2 -1 #", 0, 8, -2);
        EDGES.refused("", "lettersBy 0 0 0 0", -11);
        EDGES.refused("", "lettersBy 3 2 -1 8", -11);
        for (int sort = 0; sort < 3; sort++) {
            for (int other = 0; other < 3; other++) {
                String one = "sheet 0 " + sort + " 40";
                EDGES.refused(one, "lettersBy 0 " + other + " 41 1", sort == other ? -12 : -13);
                due(one + " | lettersBy 0 " + other + " 0 8", sort == other ? 0 : -13);
                due(one + " | lettersBy 0 " + other + " 0 0", sort == other ? 0 : -13);
            }
        }
    }

    /** From a place on, five by five; what stood ahead of a place outside came. */
    private static void lettersByPlaces() {
        EDGES.refusedEach(LETTERS, "lettersBy 0 2 # 1", -12, -1, MIN, 8, 11, 12, 13, 40, MAX, MAX - 4);
        EDGES.refusedEach(LETTERS, "lettersBy 0 2 # 8", -12, -1, -5, -40, MIN, 8, 12, MAX, MAX - 39);
        due(LETTERS + " | lettersBy 0 2 0 1", 1);
        due(LETTERS + " | lettersBy 0 2 5 1", 1);
        due(LETTERS + " | lettersBy 0 2 7 1", 0);
        due(LETTERS + " | lettersBy 0 2 0 2", 2);
        due(LETTERS + " | lettersBy 0 2 0 3", -12);
        due(LETTERS + " | lettersBy 0 2 0 3 | count 1", 2);
        due(LETTERS + " | lettersBy 0 2 5 2", -12);
        due(LETTERS + " | lettersBy 0 2 5 2 | count 1", 1);
        due(LETTERS + " | lettersBy 0 2 5 2 | told 0 6", 9);
        due(LETTERS + " | lettersBy 0 2 0 0", 0);
        due(LETTERS + " | lettersBy 0 2 0 0 | count 1", 0);
        due("sheet 0 2 0 | lettersBy 0 2 0 0", 0);
        due("sheet 0 2 0 | lettersBy 0 2 0 1", -12);
        due("sheet 0 2 4 | lettersBy 0 2 0 1", -12);
        due("sheet 0 2 5 | lettersBy 0 2 0 1", 0);
        due("sheet 0 2 40 | lettersBy 0 2 0 8", 0);
        due("sheet 0 2 40 | lettersBy 0 2 1 8", -12);
        due("sheet 0 2 39 | lettersBy 0 2 0 8", -12);
    }

    /** Refused letters are left out, those behind them come. */
    private static void lettersByLeftOut() {
        String eight = "way 5 1 0 0 | sheet 0 0 40";
        StringBuilder made = new StringBuilder(eight);
        for (int l = 0; l < 8; l++) {
            made.append(" | cell 0 ").append(5 * l + 1).append(" 1 | cell 0 ").append(5 * l + 4).append(" -1");
        }
        due(made + " | lettersBy 0 0 0 8", 8);
        due(made + " | lettersBy 0 0 0 8 | lettersBy 0 0 0 8", 8);
        due(made + " | lettersBy 0 0 0 8 | lettersBy 0 0 0 8 | lettersBy 0 0 0 8", 0);
        due(made + " | write 0 1 0 0 -1".repeat(9) + " | lettersBy 0 0 0 8", 7);
        due(made + " | write 0 1 0 0 -1".repeat(9) + " | lettersBy 0 0 0 8 | count 1", 16);
        due(made + " | cell 0 0 6 | cell 0 39 0 | lettersBy 0 0 0 8", 7);
        due(made + " | cell 0 0 6 | cell 0 36 0 | lettersBy 0 0 0 8", 6);
        due(made + " | cell 0 2 1 | lettersBy 0 0 0 8", 1);
        due(made + " | cell 0 4 0 | lettersBy 0 0 0 8", 7);
        due(made + " | cell 0 9 0 | lettersBy 0 0 0 8", 8);
        due(made + " | cell 0 9 1 | lettersBy 0 0 0 8", 7);
        due(eight + " | lettersBy 0 0 0 8", 0);
    }

    private static void taken() {
        EDGES.number(States.FULL, "taken # 0", at(0, -13), at(19, 15), -12);
        EDGES.number(States.FULL, "taken 19 #", at(0, 15), at(6, -13), -2);
        EDGES.number(States.FULL, "taken 0 #", at(0, -13), at(6, 1), -2);
        EDGES.outside("", "taken 0 #", 0, 6, -2);
        EDGES.outside(States.FULL, "taken 4 #", 0, 6, -2);
        EDGES.outside(States.FULL, "taken 20 #", 0, 6, -2);
        EDGES.outside("", "taken # 0", 0, 19, -12);
        EDGES.outside(States.FULL, "taken # 6", 0, 19, -12);
        EDGES.outside(States.BACK, "taken # 5", 0, 19, -12);
        for (int i = 0; i < 20; i++) {
            for (int kind = 0; kind < 7; kind++) {
                EDGES.refused("", "taken " + i + " " + kind, -11);
            }
        }
        due(States.FULL + " | taken 0 6", 1);
        due(States.FULL + " | taken 3 6", 0);
        due(States.FULL + " | taken 3 0", -13);
        due(States.FULL + " | taken 4 6", -13);
        due(States.FULL + " | taken 4 0", 0);
        due(States.FULL + " | taken 19 0", 15);
        due(States.FULL + " | taken 19 3", 15);
        due(States.FULL + " | taken 19 6", -13);
        due(States.WAYS + " | taken 1 6", 5);
        due(States.WAYS + " | taken 2 6", -11);
        due(States.WAYS + " | taken 2 0", -11);
        due(States.LETTERS + " | taken 8 0", 4);
        due(States.LETTERS + " | taken 9 0", -11);
        due(States.LETTERS + " | taken 9 6", -11);
        due(States.BACK + " | taken 2 6", 5);
        due(States.BACK + " | taken 9 0", -11);
    }

    /** Of that KIND, also of one that is one: UNDOING is ANSWERING, IF is ASKING, each is a LETTER. */
    private static void takenOfAKind() {
        String[] kinds = {"0", "01", "02", "013", "04", "025"};
        for (int kind = 0; kind < 6; kind++) {
            for (int as = 0; as < 7; as++) {
                boolean is = kinds[kind].indexOf((char) ('0' + as)) >= 0;
                due("way 5 1 0 0 | write 0 1 0 0 -1 | write " + kind + " 1 0 0 -1 | taken 5 " + as, is ? 1 : -13);
            }
            due("way 5 1 0 7 | taken 0 " + kind, -13);
        }
    }
}
