/** Promises 24 to 31 at their bounds: asks, letters that may be lost, that lack, forged ones, bargains, orders. */
public final class AsksEdgesTest {
    private static final Edges EDGES = new Edges("AsksEdgesTest");
    /** Way 0 takes 5 days, way 1 takes 10. */
    private static final String TWO = "way 5 1 0 0 | way 10 1 0 0 | ";
    private static final long[] NOT_TWO = {0, 11, 22, 3, 13, 23, 30, 31, 32, 33, -1, -10, -12, 100, 101, 110, Integer.MIN_VALUE,
        Integer.MAX_VALUE};

    public static void main(String[] args) {
        times();
        never();
        whatever();
        whateverSets();
        lacks();
        forged();
        bargain();
        bargainAnswered();
        obeys();
        line();
        lineByWords();
        EDGES.close();
    }

    private static void due(String calls, long want) {
        EDGES.due(calls, want);
    }

    private static long[] at(long number, long answer) {
        return Edges.at(number, answer);
    }

    /** The first call, and so many more like it. */
    private static String times(String call, int many) {
        return TWO + call + (" | " + call).repeat(many - 1) + " | ";
    }

    private static void times() {
        EDGES.number(States.LETTERS, "times # 999", at(0, 1), at(4, 0), -5);
        EDGES.number(States.LETTERS, "times 0 #", at(0, 0), at(999, 1), -7);
        EDGES.number(States.FULL, "times # 0", at(0, 0), at(15, 0), -5);
        EDGES.outside(States.LETTERS, "times # 1000", 0, 4, -5);
        EDGES.outside(States.BACK, "times 4 #", 0, 999, -7);
        EDGES.refused("", "times 0 0", -5);
        EDGES.refused(States.BACK, "times 5 0", -5);
        due(TWO + "write 1 1 0 0 -1 | times 0 4", 0);
        due(TWO + "write 1 1 0 0 -1 | times 0 5", 1);
        due(times("write 1 1 0 0 -1", 16) + "times 15 4", 0);
        due(times("write 1 1 0 0 -1", 16) + "times 15 5", 16);
        due(times("write 1 1 0 0 -1", 15) + "write 0 1 0 0 -1 | times 15 5", 15);
        String one = TWO + "write 1 1 0 23 -1 | ";
        due(one + "write 1 1 0 123 -1 | times 0 999", 2);
        due(one + "write 3 1 0 23 -1 | hold 1 3 3 | times 0 999", 2);
        due(one + "write 3 1 0 23 -1 | hold 1 3 2 | times 0 999", 1);
        due(one + "write 1 1 0 22 -1 | times 0 999", 1);
        due(one + "write 1 1 0 13 -1 | times 0 999", 1);
        due(one + "write 1 2 0 23 -1 | times 0 999", 1);
        due(one + "write 1 21 0 23 -1 | times 0 999", 1);
        due(one + "write 1 10 0 23 -1 | times 0 999", 1);
        due(one + "write 5 1 6 0 0 | times 0 10", 1);
        due(one + "write 5 1 6 0 0 | times 0 11", 0);
    }

    private static void never() {
        EDGES.number(States.LETTERS, "never # 0", at(0, 9), at(999, 8), -2);
        EDGES.number(States.LETTERS, "never 0 #", at(0, 9), at(1, 0), -2);
        EDGES.outside("", "never # 0", 0, 999, -2);
        EDGES.outside("", "never 0 #", 0, 1, -2);
        EDGES.outside(States.FULL, "never # 1", 0, 999, -2);
        EDGES.outside(States.BACK, "never 999 #", 0, 1, -2);
        due(TWO + "never 999 0", 0);
        due(TWO + "never 999 1", 0);
        due(TWO + "write 1 1 0 0 -1 | never 4 0", 1);
        due(TWO + "write 1 1 0 0 -1 | never 5 0", 0);
        due(TWO + "write 1 1 0 0 -1 | write 1 1 1 0 -1 | never 5 1", 0);
        due(TWO + "write 1 1 0 0 -1 | write 1 1 1 0 -1 | never 6 1", 3);
        due(TWO + "write 1 1 0 0 -1 | write 3 1 1 0 -1 | never 6 1", 3);
        due(TWO + "write 1 1 0 0 -1 | write 1 1 1 0 -1 | write 0 1 1 0 -1 | never 999 1", 3);
        for (int kind = 0; kind < 6; kind++) {
            due(TWO + "write " + kind + " 1 0 1 -1 | never 0 0", kind == 1 || kind == 3 ? 1 : 0);
        }
        due(TWO + "write 3 1 0 5 -1 | never 999 0", 1);
        due(TWO + "hold 1 1 5 | write 3 1 0 5 -1 | never 999 0", 0);
        due(TWO + "write 1 1 0 5 -1 | write 3 1 0 5 -1 | never 999 1", 0);
        due(TWO + "write 1 1 0 5 -1 | write 5 1 0 0 0 | never 999 0", 1);
        due(times("write 1 1 0 0 -1", 16) + "never 4 0", 65535);
        due(times("write 1 1 0 0 -1", 16) + "never 5 1", 65535);
    }

    private static void whatever() {
        EDGES.number(States.LETTERS, "whatever # 0 0", at(0, 1), at(4, 0), -5);
        EDGES.number(States.LETTERS, "whatever 0 # 1", at(0, 1), at(5, 1), -7);
        EDGES.number(States.LETTERS, "whatever 0 5 #", at(0, 0), at(2, 1), -7);
        EDGES.number(States.FULL, "whatever # 6 0", at(0, 0), at(15, 0), -5);
        EDGES.number(States.FULL, "whatever 1 # 0", at(0, 1), at(6, 0), -7);
        EDGES.outside("", "whatever # 0 0", 0, -1, -5);
        EDGES.outside(States.LETTERS, "whatever # 6 3", 0, 4, -5);
        EDGES.outside(States.BACK, "whatever 4 # 0", 0, 5, -7);
        EDGES.outside(States.BACK, "whatever 4 5 #", 0, 2, -7);
        for (int letters = 1; letters <= 8; letters++) {
            int most = Math.min(6, letters);
            EDGES.outside(times("write 1 1 0 0 -1", letters), "whatever 0 # 0", 0, most, -7);
            due(times("write 1 1 0 0 -1", letters) + "whatever 0 " + most + " 0", letters - most);
            due(times("write 1 1 0 0 -1", letters) + "whatever 0 " + most + " 1", letters);
        }
    }

    /** Any set of the first k, the others as they are, behind day 999. */
    private static void whateverSets() {
        String one = TWO + "write 1 1 0 0 -1 | ";
        due(one + "whatever 0 0 0", 1);
        due(one + "whatever 0 0 1", 1);
        due(one + "whatever 0 0 2", -1);
        due(one + "whatever 0 1 0", 0);
        due(one + "whatever 0 1 1", 1);
        due(one + "whatever 0 1 2", 1);
        due(one + "lose 0 1 | whatever 0 0 2", 0);
        due(one + "lose 0 1 | whatever 0 1 1", 0);
        due(one + "lose 0 2 | whatever 0 1 1", 1);
        due(one + "write 1 1 0 0 -1 | whatever 0 0 2", 0);
        due(one + "write 1 1 0 0 -1 | whatever 0 2 2", 0);
        due(one + "write 1 1 0 0 -1 | lose 0 1 | whatever 0 1 2", -1);
        due(one + "write 1 1 0 0 -1 | lose 0 1 | whatever 0 2 2", 2);
        due(one + "write 1 1 0 0 -1 | lose 1 1 | whatever 0 2 2", 1);
        due(one + "write 1 1 0 0 -1 | whatever 0 1 0", 1);
        due(one + "write 0 1 0 0 -1 | write 5 1 0 0 0 | whatever 0 2 1", 0);
        due(one + "write 0 1 0 0 -1 | write 5 1 0 0 0 | whatever 0 3 1", 1);
        due(one + "write 0 1 0 0 -1 | write 5 1 0 0 0 | whatever 1 3 1", 1);
        due("way 90 30 0 0 | turn 9 | write 1 1 400 0 -1 | whatever 0 0 0", 1);
        due(times("write 1 1 0 0 -1", 16) + "whatever 15 0 0", 16);
        due(times("write 1 1 0 0 -1", 16) + "whatever 15 6 0", 10);
        due(times("write 1 1 0 0 -1", 16) + "whatever 15 6 1", 16);
        String five = TWO + "write 0 2 0 0 -1 | ".repeat(5);
        due(five + "write 1 1 0 0 -1 | whatever 5 6 2", 32);
        due(five + "write 1 1 0 0 -1 | whatever 5 5 2", -1);
        String doubled = TWO + "write 1 1 0 105 -1 | write 1 1 0 5 -1 | ";
        due(doubled + "whatever 0 2 0", 0);
        due(doubled + "whatever 0 2 1", 2);
        due(TWO + "write 4 1 0 1 -1 | hold 0 1 4 | write 3 1 0 5 0 | whatever 1 2 1", 0);
    }

    private static void lacks() {
        EDGES.refusedEach(States.LETTERS, "lacks # 999", -5, NOT_TWO);
        EDGES.refusedEach("", "lacks # 1000", -5, NOT_TWO);
        EDGES.number(States.LETTERS + " | write 0 12 9 0 -1", "lacks 12 #", at(0, 0), at(999, 8), -7);
        EDGES.outside("", "lacks 1 #", 0, 999, -7);
        EDGES.outside(States.FULL, "lacks 21 #", 0, 999, -7);
        EDGES.outside(States.BACK, "lacks 20 #", 0, 999, -7);
        String two = TWO + "write 0 1 0 100 -1 | write 0 1 0 0 -1 | ";
        due(two + "lacks 1 4", 0);
        due(two + "lacks 1 5", 1);
        due(two + "lacks 1 9", 1);
        due(two + "lacks 1 10", 0);
        due(two + "lacks 10 5", 0);
        due(two + "lacks 2 5", 0);
        due(two + "lacks 21 5", 0);
        due(two + "lose 0 2 | lacks 1 999", 1);
        due(two + "lose 1 1 | lacks 1 5", 0);
        due(two + "lose 0 2 | lose 1 1 | lacks 1 999", 0);
        due(TWO + "write 0 1 0 0 -1 | write 0 1 0 100 -1 | lacks 1 5", 0);
        due(TWO + "write 0 1 0 100 -1 | write 0 10 0 0 -1 | lacks 1 5", 0);
        due(TWO + "write 0 1 0 100 -1 | write 0 2 0 0 -1 | lacks 1 5", 0);
        due(TWO + "write 0 1 0 100 -1 | write 0 21 0 0 -1 | lacks 1 5", 0);
        for (int hands : new int[] {1, 2, 10, 12, 20, 21}) {
            String each = TWO + "write 0 " + hands + " 0 100 -1 | write 0 " + hands + " 0 0 -1 | ";
            for (int asked : new int[] {1, 2, 10, 12, 20, 21}) {
                due(each + "lacks " + asked + " 5", asked == hands ? 1 : 0);
            }
        }
        due(times("write 0 1 0 100 -1", 15) + "write 0 1 0 0 -1 | lacks 1 9", 32767);
        due(times("write 0 1 0 100 -1", 15) + "write 0 1 0 0 -1 | lacks 1 10", 0);
    }

    private static void forged() {
        due("forged", 0);
        due(TWO + "forged", 0);
        due(TWO + "write 0 1 0 0 -1 | forged", 0);
        String one = TWO + "write 0 1 0 0 -1 | ";
        due(one + "write 0 10 4 0 0 | forged", 2);
        due(one + "write 0 10 5 0 0 | forged", 0);
        due(one + "write 0 10 6 0 0 | forged", 0);
        due(one + "write 0 10 400 0 0 | lose 0 1 | forged", 2);
        due(one + "write 0 10 4 0 -1 | forged", 0);
        due(one + "write 0 1 4 0 0 | forged", 0);
        due(one + "write 0 2 4 0 0 | forged", 0);
        due(one + "write 0 2 4 0 0 | lose 0 1 | forged", 0);
        due(one + "write 0 20 400 0 0 | forged", 2);
        due(one + "write 0 21 400 0 0 | forged", 2);
        due(one + "write 0 12 5 0 0 | forged", 0);
        due(one + "write 0 12 4 0 0 | forged", 2);
        due(one + "write 0 10 4 0 0 | lose 1 1 | forged", 2);
        due(one + "write 0 20 4 0 0" + " | write 0 20 4 0 0".repeat(14) + " | forged", 65534);
        for (int kind = 0; kind < 6; kind++) {
            due(one + "write " + kind + " 10 4 0 0 | forged", 2);
        }
    }

    private static void bargain() {
        EDGES.number(States.LETTERS, "bargain # 0", at(0, 0), at(4, 9), -5);
        EDGES.number(States.LETTERS, "bargain 0 #", at(0, 0), at(2, -1), -7);
        EDGES.number(States.FULL, "bargain # 0", at(0, 0), at(15, 45), -5);
        EDGES.outside(States.LETTERS, "bargain # 3", 0, 4, -5);
        EDGES.outside(States.BACK, "bargain 4 #", 0, 2, -7);
        EDGES.refused("", "bargain 0 0", -5);
        EDGES.refused(States.BACK, "bargain 5 0", -5);
        due(TWO + "write 0 1 0 0 -1 | bargain 0 0", 0);
        due(TWO + "write 0 1 400 0 -1 | bargain 0 0", 400);
        due(TWO + "write 0 1 400 0 -1 | lose 0 1 | bargain 0 0", 400);
        due(TWO + "write 0 1 400 0 -1 | bargain 0 1", 405);
        due(TWO + "write 0 1 400 0 -1 | lose 0 1 | bargain 0 1", -1);
        due(TWO + "write 0 1 400 0 -1 | bargain 0 2", -1);
    }

    private static void bargainAnswered() {
        String one = TWO + "write 1 1 0 0 -1 | ";
        due(one + "write 2 10 4 0 0 | bargain 0 2", -1);
        due(one + "write 2 10 5 0 0 | bargain 0 2", 10);
        due(one + "write 5 10 5 0 0 | bargain 0 2", 10);
        due(one + "write 2 10 4 100 0 | bargain 0 2", -1);
        due(one + "write 2 10 4 0 0 | write 2 10 5 100 0 | bargain 0 2", 15);
        due(one + "write 2 10 5 100 0 | write 2 10 9 0 0 | bargain 0 2", 14);
        due(one + "write 2 10 5 0 0 | write 2 10 9 0 0 | bargain 0 2", 10);
        due(one + "write 2 10 5 0 0 | lose 1 1 | bargain 0 2", -1);
        due(one + "write 2 10 5 0 0 | lose 0 1 | bargain 0 2", -1);
        due(one + "write 2 10 5 0 0 | write 2 10 6 0 0 | lose 2 1 | bargain 0 2", 10);
        due(one + "write 2 10 5 0 0 | write 2 10 6 0 0 | lose 1 1 | bargain 0 2", 11);
        due(one + "write 2 10 5 0 -1 | bargain 0 2", -1);
        due(one + "write 2 12 5 0 0 | bargain 0 2", -1);
        due(one + "write 2 20 5 0 0 | bargain 0 2", -1);
        due(one + "write 2 1 5 0 0 | bargain 0 2", -1);
        int[] answers = {-1, -1, 10, -1, -1, 10};
        for (int kind = 0; kind < 6; kind++) {
            due(one + "write " + kind + " 10 5 0 0 | bargain 0 2", answers[kind]);
        }
        due(TWO + "write 0 1 395 0 -1 | write 2 10 400 100 0 | bargain 0 2", 410);
        due(TWO + "write 0 1 396 0 -1 | write 2 10 400 100 0 | bargain 0 2", -1);
    }

    private static void obeys() {
        EDGES.number(States.LETTERS, "obeys # 50", at(0, 0), at(4, 0), -5);
        EDGES.number(States.LETTERS, "obeys 0 #", at(0, 1), at(999, 0), -7);
        EDGES.number(States.LETTERS, "obeys 4 #", at(9, 1), at(999, 0), -7);
        EDGES.number(TWO + "write 0 1 400 0 -1", "obeys 0 #", at(400, 1), at(999, 0), -7);
        EDGES.number(States.FULL, "obeys 15 #", at(45, 1), at(999, 1), -7);
        EDGES.outside(States.LETTERS, "obeys # 1000", 0, 4, -5);
        EDGES.outside(States.BACK, "obeys # -1", 0, 4, -5);
        EDGES.refused("", "obeys 0 0", -5);
        EDGES.refused(States.WAYS, "obeys 0 1000", -5);
        due(TWO + "write 0 1 7 0 -1 | obeys 0 36", 1);
        due(TWO + "write 0 1 7 0 -1 | obeys 0 37", 0);
        due(TWO + "write 0 1 7 0 -1 | lose 0 1 | obeys 0 7", 1);
        String[] words = {"season = 9", "long = 50", "had = 0", "wrote = 0", "age = 992", "day = 999", "0 - 1", "8192*8192*32"};
        for (String each : words) {
            String law = "turn 9 | read late season*long;write 0;keep " + each + ";| force 1 | ";
            due("way 5 1 0 0 | write 0 1 7 0 -1 | " + law + "obeys 0 999", 1);
        }
    }

    /** To the last day on which keep isn't 0, for 200 days more at most. */
    private static void line() {
        EDGES.number(States.LETTERS, "line #", at(0, 29), at(4, 29), -5);
        EDGES.number(States.FULL + " | lose 15 0", "line #", at(0, 210), at(15, 206), -5);
        EDGES.refused(States.LETTERS, "line 3", -3);
        EDGES.refused(States.FULL, "line 15", -3);
        EDGES.refused("", "line 0", -5);
        EDGES.refused(States.WAYS, "line 0", -5);
        EDGES.refused(States.BACK, "line 5", -5);
        due("way 29 1 0 0 | write 0 1 0 0 -1 | line 0", 29);
        due("way 30 1 0 0 | write 0 1 0 0 -1 | line 0", -1);
        due("way 1 30 0 0 | write 0 1 2 0 -1 | line 0", 29);
        due("way 1 30 0 0 | write 0 1 1 0 -1 | line 0", -1);
        due("way 1 1 0 0 | write 0 1 0 0 -1 | line 0", 29);
    }

    private static void lineByWords() {
        String[] words = {"1", "age < 205", "age < 206", "age < 204", "age < 6", "age < 5", "day < 6", "0", "not age = 7", "0 - 1"};
        int[] ages = {205, 204, 205, 203, 5, -1, 5, -1, 6, 205};
        for (int i = 0; i < words.length; i++) {
            due("way 5 1 0 0 | write 0 1 0 0 -1 | read late 0;write 0;keep " + words[i] + ";| force 1 | line 0", ages[i]);
        }
        String latest = "way 90 30 0 0 | write 0 1 400 0 -1 | read late 99;write 0;keep ";
        due(latest + "1;| force 1 | line 0", 409);
        due(latest + "day < 809;| force 1 | line 0", 408);
        due(latest + "day < 810;| force 1 | line 0", 409);
        due(latest + "day < 610;| force 1 | line 0", 209);
        due(latest + "day < 609;| force 1 | line 0", -1);
    }
}
