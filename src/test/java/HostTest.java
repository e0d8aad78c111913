/** Promises 44 to 48: sheets, letters by a sheet, what lies at a place. */
public final class HostTest {
    private static final Due DUE = new Due("HostTest");

    public static void main(String[] args) {
        sheet();
        cell();
        copy();
        lettersBy();
        lettersByRefusals();
        taken();
        DUE.close();
    }

    private static void due(String call, long got, long want) {
        DUE.due(call, got, want);
    }

    /** A sheet of rows of five is written as letters: so its numbers are seen by told(). */
    private static void fill(LettersThatCross x, int s, int... row) {
        for (int i = 0; i < row.length; i++) {
            x.cell(s, i, row[i]);
        }
    }

    private static void sheet() {
        LettersThatCross x = new LettersThatCross();
        due("sheet 4", x.sheet(4, 0, 0), -2);
        due("sheet -1", x.sheet(-1, 0, 0), -2);
        due("sort 3", x.sheet(0, 3, 0), -2);
        due("sort -2", x.sheet(0, -2, 0), -2);
        due("41", x.sheet(0, 0, 41), -2);
        due("below 0", x.sheet(0, 0, -1), -14);
        due("bad ahead of that", x.sheet(0, 3, -1), -2);
        due("still missing", x.cell(0, 0, 0), -11);
        due("40", x.sheet(3, 2, 40), 1);
        due("its last place", x.cell(3, 39, 1), 1);
        due("behind it", x.cell(3, 40, 1), -12);
        due("0", x.sheet(3, 0, 0), 1);
        due("no place", x.cell(3, 0, 1), -12);
        due("missing, n 41", x.sheet(3, -1, 41), 1);
        due("missing", x.cell(3, 0, 1), -11);
        due("missing, n below 0", x.sheet(3, -1, -1), 1);
        x.way(5, 1, 0, 0);
        x.sheet(0, 2, 5);
        fill(x, 0, 0, 1, 7, 0, -1);
        due("refused, all stays", x.sheet(0, 2, 41), -2);
        due("refused, all stays", x.sheet(0, 2, -1), -14);
        due("a letter by it", x.lettersBy(0, 2, 0, 1), 1);
        due("its day", x.told(0, 3), 7);
        x.sheet(0, 2, 5);
        x.cell(0, 1, 1);
        x.cell(0, 2, 9);
        due("all 0 anew, it names letter 0", x.lettersBy(0, 2, 0, 1), 1);
        due("named", x.told(1, 7), 0);
    }

    private static void cell() {
        LettersThatCross x = new LettersThatCross();
        due("sheet 4", x.cell(4, 0, 0), -2);
        due("sheet -1", x.cell(-1, 0, 0), -2);
        due("missing", x.cell(0, 99, 0), -11);
        x.sheet(0, 0, 5);
        x.sheet(1, 1, 5);
        x.sheet(2, 2, 5);
        due("place 5", x.cell(0, 5, 0), -12);
        due("place -1", x.cell(0, -1, 0), -12);
        due("place 4", x.cell(0, 4, Integer.MIN_VALUE), 1);
        x.way(5, 1, 0, 0);
        x.way(5, 1, 0, 0);
        fill(x, 0, 256, 257, 512 + 99, 256 * 9 + 37, 255);
        due("bytes", x.lettersBy(0, 0, 0, 1), 1);
        int[] want = {0, 0, 1, 99, 0, 3, 7, -1};
        for (int what = 0; what < 8; what++) {
            due("told(0, " + what + ")", x.told(0, what), want[what]);
        }
        fill(x, 1, 65536 + 2, 65536 * 3 + 12, 65536 + 300, 65536 + 119, 65535);
        due("shorts", x.lettersBy(1, 1, 0, 1), 1);
        int[] wantShorts = {2, 1, 2, 300, 1, 1, 9, -1};
        for (int what = 0; what < 8; what++) {
            due("told(1, " + what + ")", x.told(1, what), wantShorts[what]);
        }
        fill(x, 2, 0, 1, 65536 + 300, 0, -1);
        due("ints keep all", x.lettersBy(2, 2, 0, 1), 0);
        fill(x, 2, 5, 21, 400, 139, 1);
        due("ints", x.lettersBy(2, 2, 0, 1), 1);
        int[] wantInts = {5, 2, 1, 400, 1, 3, 9, 1};
        for (int what = 0; what < 8; what++) {
            due("told(2, " + what + ")", x.told(2, what), wantInts[what]);
        }
        fill(x, 0, 0, 1, 200, 0, -1);
        due("200 is below 0 in a byte", x.lettersBy(0, 0, 0, 1), 0);
    }

    private static void copy() {
        LettersThatCross x = new LettersThatCross();
        due("sheet 4", x.copy(4, 0, 0, 0, 0), -2);
        due("sheet -1", x.copy(0, 0, -1, 0, 0), -2);
        due("both are missing", x.copy(0, 9, 1, 9, 9), -11);
        x.sheet(0, 2, 10);
        due("the other one is missing", x.copy(0, 9, 1, 9, 9), -11);
        due("the one is missing", x.copy(1, 9, 0, 9, 9), -11);
        x.sheet(1, 1, 10);
        due("unlike sorts", x.copy(0, 9, 1, 9, 9), -13);
        x.sheet(1, 2, 6);
        int[][] outside = {{0, 5, 2}, {-1, 0, 1}, {0, -1, 1}, {10, 0, 1}, {0, 6, 1}, {9, 0, 2}, {0, 0, -1}, {11, 0, 0}, {0, 7, 0},
            {0, 0, 7}, {1, 1, Integer.MAX_VALUE}, {Integer.MAX_VALUE, 1, 1}, {1, Integer.MAX_VALUE, 1},
            {Integer.MIN_VALUE, 0, 1}, {5, 5, Integer.MIN_VALUE}};
        for (int[] o : outside) {
            due("copy of " + java.util.Arrays.toString(o), x.copy(0, o[0], 1, o[1], o[2]), -12);
        }
        due("none at the ends", x.copy(0, 10, 1, 6, 0), 0);
        x.way(5, 1, 0, 0);
        fill(x, 0, 9, 0, 1, 7, 4, -1, 9, 9, 9, 9);
        due("five of them", x.copy(0, 1, 1, 1, 5), 5);
        due("a letter by them", x.lettersBy(1, 2, 1, 1), 1);
        due("its day", x.told(0, 3), 7);
        due("its more", x.told(0, 6), 4);
        due("ahead of them nothing came", x.copy(1, 0, 0, 0, 1), 1);
        due("its own, onward", x.copy(0, 1, 0, 2, 5), 5);
        due("as they were", x.lettersBy(0, 2, 2, 1), 1);
        due("its day", x.told(1, 3), 7);
        due("its own, backward", x.copy(0, 2, 0, 0, 8), 8);
        due("as they were", x.lettersBy(0, 2, 0, 1), 1);
        due("its more", x.told(2, 6), 4);
        due("the rest", x.lettersBy(0, 2, 5, 1), 0);
    }

    private static void lettersBy() {
        LettersThatCross x = new LettersThatCross();
        x.way(5, 1, 0, 0);
        x.sheet(0, 1, 40);
        fill(x, 0, 0, 1, 0, 1, -1, 1, 10, 1, 12, 0, 6, 10, 1, 12, 0, 2, 20, 2, 23, 1, 3, 1, 1, 4, -1,
            3, 2, 2, 4, 3, 4, 12, 3, 5, 2, 5, 21, 400, 6, 5);
        due("eight, others are left out", x.lettersBy(0, 1, 0, 8), 4);
        due("letters", x.count(1), 4);
        int[][] want = {{0, 0, 1, 0, 0, 0, 1, -1}, {1, 1, 0, 1, 0, 1, 2, 0}, {2, 2, 0, 2, 0, 2, 3, 1}, {4, 1, 2, 3, 0, 0, 5, 2}};
        for (int l = 0; l < 4; l++) {
            for (int what = 0; what < 8; what++) {
                due("told(" + l + ", " + what + ")", x.told(l, what), want[l][what]);
            }
        }
        due("none of them", x.lettersBy(0, 1, 40, 0), 0);
        due("five of the midst", x.lettersBy(0, 1, 35, 1), 0);
        x.lettersBy(0, 1, 1, 7);
        for (int i = 0; i < 20; i++) {
            x.write(0, 1, 400, 0, -1);
        }
        fill(x, 0, 0, 1, 400, 1, -1);
        due("full: left out", x.lettersBy(0, 1, 0, 1), 0);
        due("letters", x.count(1), 16);
    }

    private static void lettersByRefusals() {
        LettersThatCross x = new LettersThatCross();
        x.way(5, 1, 0, 0);
        due("sheet 4", x.lettersBy(4, 0, 0, 0), -2);
        due("sheet -1", x.lettersBy(-1, 0, 0, 0), -2);
        due("sort 3", x.lettersBy(0, 3, 0, 0), -2);
        due("sort -1", x.lettersBy(0, -1, 0, 0), -2);
        due("n 9", x.lettersBy(0, 0, 0, 9), -2);
        due("n -1", x.lettersBy(0, 0, 0, -1), -2);
        due("missing", x.lettersBy(0, 0, -1, 1), -11);
        x.sheet(0, 1, 12);
        due("another sort", x.lettersBy(0, 0, -1, 1), -13);
        due("another sort", x.lettersBy(0, 2, -1, 1), -13);
        due("place -1", x.lettersBy(0, 1, -1, 1), -12);
        due("place 8", x.lettersBy(0, 1, 8, 1), -12);
        due("a far place", x.lettersBy(0, 1, Integer.MAX_VALUE, 8), -12);
        due("a far place", x.lettersBy(0, 1, Integer.MIN_VALUE, 8), -12);
        due("letters", x.count(1), 0);
        fill(x, 0, 0, 1, 0, 0, -1, 0, 1, 0, 0, -1);
        due("what stood ahead came", x.lettersBy(0, 1, 0, 3), -12);
        due("letters", x.count(1), 2);
        due("just inside", x.lettersBy(0, 1, 7, 1), 0);
    }

    private static void taken() {
        LettersThatCross x = new LettersThatCross();
        x.way(5, 1, 0, 17);
        x.way(5, 1, 0, 18);
        for (int kind = 0; kind < 6; kind++) {
            x.write(kind, 1, 0, 0, -1);
        }
        due("kind 7", x.taken(20, 7), -2);
        due("kind -1", x.taken(20, -1), -2);
        due("place 20", x.taken(20, 0), -12);
        due("place -1", x.taken(-1, 0), -12);
        due("way 0", x.taken(0, 6), 17);
        due("way 1", x.taken(1, 6), 18);
        due("no way 2", x.taken(2, 6), -11);
        due("no way 3, no letter either", x.taken(3, 0), -11);
        due("no letter 6", x.taken(10, 0), -11);
        due("no letter 15", x.taken(19, 6), -11);
        boolean[][] is = {{true, false, false, false, false, false}, {true, true, false, false, false, false},
            {true, false, true, false, false, false}, {true, true, false, true, false, false},
            {true, false, false, false, true, false}, {true, false, true, false, false, true}};
        for (int kind = 0; kind < 6; kind++) {
            due("a way for a letter", x.taken(0, kind), -13);
            due("a letter for a way", x.taken(4 + kind, 6), -13);
            for (int of = 0; of < 6; of++) {
                due("taken(" + (4 + kind) + ", " + of + ")", x.taken(4 + kind, of), is[kind][of] ? kind : -13);
            }
        }
    }
}
