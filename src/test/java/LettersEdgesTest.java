/** Promises 12 to 14 at their bounds: letters, by what they are lost, what is told of them, when they come. */
public final class LettersEdgesTest {
    private static final Edges EDGES = new Edges("LettersEdgesTest");
    private static final String TWO = "way 5 1 0 3 | way 10 1 0 40 | ";

    public static void main(String[] args) {
        writeKindDayNamed();
        writeHands();
        writeWhat();
        writeState();
        writeFull();
        writeBehindBack();
        lose();
        told();
        toldAtItsBounds();
        comes();
        comesDoubled();
        costs();
        EDGES.close();
    }

    private static void due(String calls, long want) {
        EDGES.due(calls, want);
    }

    private static long[] at(long number, long answer) {
        return Edges.at(number, answer);
    }

    private static void writeKindDayNamed() {
        EDGES.number(States.WAYS, "write # 1 0 0 -1", at(0, 0), at(5, 0), -2);
        EDGES.number(States.WAYS, "write 0 1 # 0 -1", at(0, 0), at(400, 0), -2);
        EDGES.number(States.WAYS, "write 0 1 0 0 #", at(-1, 0), at(-1, 0), -2);
        EDGES.number(States.LETTERS, "write # 1 9 0 -1", at(0, 5), at(5, 5), -2);
        EDGES.outside(States.LETTERS, "write 0 1 # 0 -1", 0, 400, -2);
        EDGES.number(States.LETTERS, "write 0 1 9 0 #", at(-1, 5), at(4, 5), -2);
        EDGES.refused("", "write 0 1 0 0 -1", -2);
        EDGES.refused(States.WAYS, "write 0 1 0 0 0", -2);
    }

    /** Ten times the writer, and another hand. */
    private static void writeHands() {
        for (int hands = -40; hands <= 130; hands++) {
            boolean areTwo = hands == 1 || hands == 2 || hands == 10 || hands == 12 || hands == 20 || hands == 21;
            if (areTwo) {
                due(States.WAYS + " | write 0 " + hands + " 0 0 -1", 0);
                due(States.WAYS + " | write 0 " + hands + " 0 0 -1 | told 0 1", hands / 10);
                due(States.WAYS + " | write 0 " + hands + " 0 0 -1 | told 0 2", hands % 10);
            } else {
                due(States.WAYS + " | write 0 " + hands + " 0 0 -1", -2);
            }
        }
        EDGES.refusedEach(States.WAYS, "write 0 # 0 0 -1", -2, 0, 11, 22, 3, 30, 33, -1, -10, -12, Integer.MIN_VALUE, Integer.MAX_VALUE);
    }

    /** A hundred times the WAY, ten times the THING, and MORE. */
    private static void writeWhat() {
        EDGES.number("way 5 1 0 0", "write 0 1 0 # -1", at(0, 0), at(39, 0), -2);
        EDGES.number(States.WAYS, "write 0 1 0 # -1", at(0, 0), at(139, 0), -2);
        EDGES.number(States.FOUR_WAYS, "write 0 1 0 # -1", at(0, 0), at(339, 0), -2);
        for (int what = 0; what <= 520; what++) {
            boolean stands = what < 400 && what % 100 < 40;
            due(States.FOUR_WAYS + " | write 0 1 0 " + what + " -1", stands ? 0 : -2);
        }
        EDGES.refusedEach(States.FOUR_WAYS, "write 0 1 0 # -1", -2, -1, -100, -339, 40, 99, 140, 399, 400, 439, 1000);
    }

    private static void writeState() {
        EDGES.refused(States.WAYS + " | write 0 1 9 0 -1", "write 0 1 8 0 -1", -3);
        EDGES.refused(States.WAYS + " | write 0 1 400 0 -1", "write 0 1 399 0 -1", -3);
        EDGES.refused(States.WAYS + " | write 0 1 400 0 -1", "write 0 1 0 0 0", -3);
        EDGES.refused(States.WAYS + " | write 0 1 1 0 -1 | write 0 1 5 0 -1", "write 0 20 4 0 0", -3);
        due(States.WAYS + " | write 0 1 9 0 -1 | write 0 1 9 0 -1", 1);
        due(States.WAYS + " | write 0 1 400 0 -1 | write 0 1 400 0 0", 1);
        due(States.WAYS + " | write 0 1 0 0 -1 | write 0 1 0 0 0", 1);
        String[] bad = {"write 6 1 8 0 -1", "write -1 1 8 0 -1", "write 0 11 8 0 -1", "write 0 1 -1 0 -1", "write 0 1 8 200 -1",
            "write 0 1 8 40 -1", "write 0 1 8 -1 -1", "write 0 1 8 0 1", "write 0 1 8 0 -2"};
        for (String call : bad) {
            EDGES.refused(States.WAYS + " | write 0 1 9 0 -1", call, -2);
        }
    }

    private static void writeFull() {
        due(States.FOUR_WAYS + " | " + States.SIXTEEN, 15);
        due(States.FOUR_WAYS + " | " + States.SIXTEEN + " | count 1", 16);
        EDGES.refused(States.FULL, "write 0 1 45 0 -1", -4);
        EDGES.refused(States.FULL, "write 5 21 400 339 15", -4);
        EDGES.refused(States.FULL, "write 0 1 44 0 -1", -3);
        EDGES.refused(States.FULL, "write 0 1 0 0 15", -3);
        String[] bad = {"write 6 1 44 0 -1", "write 0 0 44 0 -1", "write 0 1 401 0 -1", "write 0 1 44 400 -1", "write 0 1 44 0 16",
            "write 0 1 45 0 16", "write 0 1 44 0 -2"};
        for (String call : bad) {
            EDGES.refused(States.FULL, call, -2);
        }
    }

    private static void writeBehindBack() {
        due(States.BACK + " | write 0 1 9 0 4", 5);
        due(States.BACK + " | write 0 1 9 239 -1", 5);
        EDGES.refused(States.BACK, "write 0 1 8 0 -1", -3);
        EDGES.refused(States.BACK, "write 0 1 9 0 5", -2);
        due(States.BACK + " | write 0 1 9 0 -1 | told 5 0", 0);
        due(States.BACK + " | write 0 1 9 0 -1 | lose 5 0", 0);
        due(States.WAYS + " | image | write 0 1 400 0 -1 | lose 0 3 | back | write 0 1 0 0 -1", 0);
        due(States.WAYS + " | image | write 0 1 400 0 -1 | lose 0 3 | back | write 0 1 0 0 -1 | lose 0 0", 0);
        due(States.FULL + " | back | write 0 1 45 0 -1", -4);
    }

    private static void lose() {
        EDGES.number(States.LETTERS, "lose # 0", at(0, 0), at(4, 0), -1);
        EDGES.number(States.FULL, "lose # 0", at(0, 0), at(15, 15), -1);
        EDGES.number("way 5 1 0 0 | write 0 1 0 0 -1", "lose 0 #", at(0, 0), at(1, 0), -2);
        EDGES.number(States.LETTERS, "lose 3 #", at(0, 3), at(3, 3), -2);
        EDGES.number(States.FULL, "lose 3 #", at(0, 5), at(15, 5), -2);
        EDGES.outside("", "lose # 0", 0, -1, -1);
        EDGES.outside(States.LETTERS, "lose # 16", 0, 4, -1);
        EDGES.outside(States.BACK, "lose # -1", 0, 4, -1);
        EDGES.refused(States.WAYS, "lose 0 16", -1);
        due(States.LETTERS + " | lose 0 3 | lose 0 1", 3);
        due(States.LETTERS + " | lose 0 3 | lose 0 4 | lose 0 0", 3);
    }

    private static void told() {
        EDGES.number(States.LETTERS, "told # 3", at(0, 0), at(4, 9), -5);
        EDGES.number(States.FULL, "told # 3", at(0, 0), at(15, 45), -5);
        EDGES.number(States.LETTERS, "told 2 #", at(0, 4), at(9, 10), -7);
        EDGES.outside(States.LETTERS, "told # 10", 0, 4, -5);
        EDGES.outside(States.BACK, "told # -1", 0, 4, -5);
        EDGES.refused("", "told 0 10", -5);
        EDGES.refused(States.WAYS, "told 0 0", -5);
        long[] third = {4, 0, 1, 7, 1, 0, 3, 1, 27, 10};
        for (int what = 0; what < 10; what++) {
            due(States.LETTERS + " | told 2 " + what, third[what]);
        }
    }

    private static void toldAtItsBounds() {
        String least = "way 1 1 0 0 | write 0 1 0 0 -1 | told 0 ";
        long[] leasts = {0, 0, 1, 0, 0, 0, 0, -1, 1, 0};
        String most = "way 1 1 0 0 | way 1 1 0 0 | way 1 1 0 0 | way 90 30 100 99 | turn 9 | write 0 1 400 0 -1"
            + " | write 0 1 400 0 -1 | write 5 21 400 339 1 | told 2 ";
        long[] mosts = {5, 2, 1, 400, 3, 3, 9, 1, 609, 99};
        for (int what = 0; what < 10; what++) {
            due(least + what, leasts[what]);
            due(most + what, mosts[what]);
        }
        due(States.FULL + " | told 15 7", 13);
        due(States.FULL + " | told 14 7", 13);
        due(States.FULL + " | told 0 7", -1);
    }

    /** By its WAY, if it isn't LOST by that. */
    private static void comes() {
        due(TWO + "write 0 1 7 0 -1 | told 0 8", 12);
        due(TWO + "write 0 1 7 0 -1 | lose 0 2 | told 0 8", 12);
        due(TWO + "write 0 1 7 0 -1 | lose 0 1 | told 0 8", -1);
        due(TWO + "write 0 1 7 0 -1 | lose 0 3 | told 0 8", -1);
        due(TWO + "write 0 1 7 100 -1 | lose 0 1 | told 0 8", 17);
        due(TWO + "write 0 1 7 100 -1 | lose 0 2 | told 0 8", -1);
        due(TWO + "write 0 1 7 100 -1 | lose 0 2 | lose 0 0 | told 0 8", 17);
        due("way 1 30 0 0 | write 0 1 30 0 -1 | told 0 8", 31);
        due("way 1 30 0 0 | write 0 1 31 0 -1 | told 0 8", 61);
        due("way 90 1 0 0 | read late -90;write 0;keep 0;| force 1 | write 0 1 400 0 -1 | told 0 8", 401);
        String other = "way 5 1 0 0 | way 1 1 0 0 | ";
        for (int kind = 0; kind < 6; kind++) {
            due(other + "write " + kind + " 1 0 1 -1 | told 0 8", kind == 4 ? 1 : 5);
            due(other + "write " + kind + " 1 0 1 -1 | lose 0 1 | told 0 8", kind == 4 ? 1 : -1);
        }
    }

    /** By the WAY that is MORE modulo how many WAYS as well. */
    private static void comesDoubled() {
        String one = "way 5 1 0 3 | ";
        due(one + "write 4 1 0 9 -1 | told 0 8", 5);
        due(one + "write 4 1 0 9 -1 | lose 0 1 | told 0 8", -1);
        due(TWO + "write 4 1 0 100 -1 | told 0 8", 5);
        due(TWO + "write 4 1 0 1 -1 | told 0 8", 5);
        due(TWO + "write 4 1 0 1 -1 | lose 0 1 | told 0 8", 10);
        due(TWO + "write 4 1 0 1 -1 | lose 0 2 | told 0 8", 5);
        due(TWO + "write 4 1 0 1 -1 | lose 0 3 | told 0 8", -1);
        due(TWO + "write 4 1 0 108 -1 | lose 0 1 | told 0 8", 10);
        due(TWO + "write 4 1 0 109 -1 | told 0 8", 10);
        due(TWO + "write 4 1 0 9 -1 | way 1 1 0 0 | told 0 8", 5);
        due(TWO + "write 4 1 0 8 -1 | way 1 1 0 0 | told 0 8", 1);
        due(TWO + "way 2 1 0 0 | way 1 1 0 0 | write 4 1 0 7 -1 | told 0 8", 1);
        due(TWO + "way 2 1 0 0 | way 1 1 0 0 | write 4 1 0 4 -1 | told 0 8", 5);
        due(TWO + "way 2 1 0 0 | way 1 1 0 0 | write 4 1 0 6 -1 | told 0 8", 2);
        due(TWO + "way 2 1 0 0 | way 1 1 0 0 | write 4 1 0 6 -1 | lose 0 11 | told 0 8", 2);
        due(TWO + "way 2 1 0 0 | way 1 1 0 0 | write 4 1 0 6 -1 | lose 0 5 | told 0 8", -1);
        due("way 5 1 0 3 | way 5 1 0 4 | write 4 1 0 1 -1 | told 0 8", 5);
        due("way 5 7 0 3 | way 9 1 0 4 | write 4 1 1 1 -1 | told 0 8", 10);
    }

    private static void costs() {
        due(TWO + "write 0 1 0 101 -1 | told 0 9", 40);
        due(TWO + "write 4 1 0 100 -1 | told 0 9", 43);
        due(TWO + "write 4 1 0 101 -1 | told 0 9", 80);
        due(TWO + "write 4 1 0 0 -1 | told 0 9", 6);
        due(TWO + "write 4 1 0 3 -1 | lose 0 3 | told 0 9", 43);
        due("way 1 1 0 99 | write 4 1 0 9 -1 | told 0 9", 198);
        due("way 1 1 0 0 | write 4 1 0 9 -1 | told 0 9", 0);
    }
}
