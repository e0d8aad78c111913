/** Promises 12 to 14: letters, by what they are lost, what is told of them. */
public final class LettersTest {
    private static final Due DUE = new Due("LettersTest");

    public static void main(String[] args) {
        write();
        writeOrder();
        full();
        lose();
        told();
        doubled();
        DUE.close();
    }

    private static void due(String call, long got, long want) {
        DUE.due(call, got, want);
    }

    private static void write() {
        LettersThatCross x = new LettersThatCross();
        due("by no way", x.write(0, 1, 0, 0, -1), -2);
        x.way(5, 1, 0, 0);
        x.way(5, 1, 0, 0);
        int[][] bad = {{6, 1, 3, 0, -1}, {-1, 1, 3, 0, -1}, {0, 0, 3, 0, -1}, {0, 11, 3, 0, -1}, {0, 22, 3, 0, -1},
            {0, 3, 3, 0, -1}, {0, 13, 3, 0, -1}, {0, 30, 3, 0, -1}, {0, 31, 3, 0, -1}, {0, -1, 3, 0, -1},
            {0, -10, 3, 0, -1}, {0, 101, 3, 0, -1}, {0, 1, -1, 0, -1}, {0, 1, 401, 0, -1}, {0, 1, 3, -1, -1},
            {0, 1, 3, 200, -1}, {0, 1, 3, 40, -1}, {0, 1, 3, 140, -1}, {0, 1, 3, 99, -1}, {0, 1, 3, 1000, -1},
            {0, 1, 3, 0, 0}, {0, 1, 3, 0, -2}, {0, 1, 3, Integer.MIN_VALUE, -1}, {0, Integer.MAX_VALUE, 3, 0, -1}};
        for (int[] b : bad) {
            due("write of " + java.util.Arrays.toString(b), x.write(b[0], b[1], b[2], b[3], b[4]), -2);
        }
        due("none came", x.count(1), 0);
        int[] hands = {1, 2, 10, 12, 20, 21};
        for (int i = 0; i < 6; i++) {
            due("write", x.write(i, hands[i], 3 + i, 139 - i, i - 1), i);
            due("kind", x.told(i, 0), i);
            due("writer", x.told(i, 1), hands[i] / 10);
            due("reader", x.told(i, 2), hands[i] % 10);
            due("day", x.told(i, 3), 3 + i);
            due("way", x.told(i, 4), 1);
            due("thing", x.told(i, 5), 3);
            due("more", x.told(i, 6), 9 - i);
            due("named", x.told(i, 7), i - 1);
            due("letters", x.count(1), i + 1);
        }
        due("it names itself", x.write(0, 1, 400, 0, 6), -2);
        due("on the last day", x.write(0, 1, 400, 0, 5), 6);
    }

    private static void writeOrder() {
        LettersThatCross x = new LettersThatCross();
        x.way(5, 1, 0, 0);
        due("day 9", x.write(0, 1, 9, 0, -1), 0);
        due("day 8", x.write(0, 1, 8, 0, -1), -3);
        due("bad ahead of state", x.write(0, 0, 8, 0, -1), -2);
        due("day 9 once more", x.write(0, 1, 9, 0, -1), 1);
        due("day 10", x.write(0, 20, 10, 0, -1), 2);
        due("day 9 is ahead", x.write(0, 1, 9, 0, -1), -3);
        due("three letters", x.count(1), 3);
    }

    private static void full() {
        LettersThatCross x = new LettersThatCross();
        x.way(5, 1, 0, 0);
        for (int i = 0; i < 16; i++) {
            due("write", x.write(0, 1, 7, 0, -1), i);
        }
        due("a seventeenth", x.write(0, 1, 7, 0, 15), -4);
        due("state ahead of full", x.write(0, 1, 6, 0, 15), -3);
        due("bad ahead of both", x.write(0, 1, 6, 0, 16), -2);
        due("letters", x.count(1), 16);
        due("told of the last one", x.told(15, 3), 7);
        due("told of none", x.told(16, 3), -5);
    }

    private static void lose() {
        LettersThatCross x = new LettersThatCross();
        x.way(5, 1, 0, 0);
        x.way(9, 1, 0, 0);
        due("no letter", x.lose(0, 0), -1);
        due("no letter, ahead of bad", x.lose(0, -1), -1);
        x.write(0, 1, 0, 100, -1);
        x.write(0, 1, 0, 0, -1);
        due("lost by way 0", x.lose(0, 1), 0);
        due("it comes by way 1", x.told(0, 8), 9);
        due("lost by way 1", x.lose(0, 2), 1);
        due("it never comes", x.told(0, 8), -1);
        due("the other one comes", x.told(1, 8), 5);
        due("lost by both", x.lose(0, 3), 2);
        due("it never comes", x.told(0, 8), -1);
        due("16", x.lose(0, 16), -2);
        due("-1", x.lose(0, -1), -2);
        due("a bit that is no way", x.lose(0, 4), -2);
        due("no such letter", x.lose(2, 0), -1);
        due("no such letter", x.lose(-1, 0), -1);
        due("lost by none", x.lose(0, 0), 3);
        due("it comes", x.told(0, 8), 9);
        x.way(9, 1, 0, 0);
        due("now it is a way", x.lose(0, 4), 0);
        due("not its own", x.told(0, 8), 9);
        due("all three", x.lose(0, 7), 4);
    }

    private static void told() {
        LettersThatCross x = new LettersThatCross();
        x.way(5, 4, 0, 6);
        due("of none", x.told(0, 0), -5);
        x.write(0, 1, 2, 0, -1);
        due("comes", x.told(0, 8), 9);
        due("costs", x.told(0, 9), 6);
        due("names none", x.told(0, 7), -1);
        due("what 10", x.told(0, 10), -7);
        due("what -1", x.told(0, -1), -7);
        due("letter -1", x.told(-1, 10), -5);
        due("letter 1", x.told(1, 10), -5);
        x.turn(1);
        due("comes late", x.told(0, 8), 14);
        x.lose(0, 1);
        due("never comes", x.told(0, 8), -1);
        due("costs all the same", x.told(0, 9), 6);
    }

    private static void doubled() {
        LettersThatCross x = new LettersThatCross();
        x.way(20, 1, 0, 3);
        x.way(10, 1, 0, 10);
        x.way(30, 1, 0, 40);
        x.write(4, 1, 0, 1, -1);
        x.write(4, 1, 0, 105, -1);
        x.write(4, 1, 0, 0, -1);
        x.write(4, 1, 0, 106, -1);
        due("by 0 and 1", x.told(0, 8), 10);
        due("costs of 0 and 1", x.told(0, 9), 13);
        due("by 1 and 5 modulo 3", x.told(1, 8), 10);
        due("costs of 1 and 2", x.told(1, 9), 50);
        due("by 0 twice", x.told(2, 8), 20);
        due("costs of 0 twice", x.told(2, 9), 6);
        due("by 1 and 6 modulo 3", x.told(3, 8), 10);
        due("costs of 1 and 0", x.told(3, 9), 13);
        x.lose(0, 2);
        x.lose(1, 2);
        x.lose(2, 1);
        x.lose(3, 3);
        due("lost by the other one", x.told(0, 8), 20);
        due("lost by its own", x.told(1, 8), 30);
        due("lost by its one", x.told(2, 8), -1);
        due("lost by both", x.told(3, 8), -1);
        due("of a lost one too", x.told(3, 9), 13);
        x.way(1, 1, 0, 50);
        due("by 1 and 5 modulo 4", x.told(1, 8), -1);
        x.lose(3, 0);
        due("by 1 and 6 modulo 4", x.told(3, 9), 50);
        x.write(0, 1, 0, 103, -1);
        due("a plain one by its own alone", x.told(4, 8), 10);
        due("costs of its own alone", x.told(4, 9), 10);
    }
}
