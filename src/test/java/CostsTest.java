/** Promises 36 to 43: asking again, surer ways, costs, letters drawn by a seed, images. */
public final class CostsTest {
    private static final Due DUE = new Due("CostsTest");
    private static final long NO = -4611686018427387904L;

    public static void main(String[] args) {
        again();
        surer();
        copies();
        costs();
        odds();
        drawn();
        drawnWhat();
        image();
        imageKeepsNoMore();
        DUE.close();
    }

    private static void due(String call, long got, long want) {
        DUE.due(call, got, want);
    }

    private static void again() {
        LettersThatCross x = new LettersThatCross();
        due("by no way", x.again(0, 100, 0), -5);
        int[][] ways = {{10, 7, 20, 5}, {5, 1, 100, 0}, {5, 1, 0, 0}, {90, 1, 50, 0}};
        for (int[] w : ways) {
            x.way(w[0], w[1], w[2], w[3]);
        }
        due("way 4", x.again(4, 0, 0), -5);
        due("way -1", x.again(-1, 0, 0), -5);
        due("wait 100", x.again(0, 100, 0), -7);
        due("wait -1", x.again(0, -1, 0), -7);
        due("twice 10000", x.again(0, 0, 10000), -7);
        due("twice -1", x.again(0, 0, -1), -7);
        due("at once, as twice costs little", x.again(0, 3, 7), 1);
        due("at once, as like ones", x.again(0, 8, 38), 1);
        due("behind there and back", x.again(0, 8, 39), 20);
        due("like ones once more", x.again(0, 80, 380), 1);
        due("a little more", x.again(0, 80, 381), 20);
        due("the most", x.again(0, 99, 9999), 20);
        due("all is lost: at once", x.again(1, 9, 9999), 1);
        due("nothing is lost, twice costs", x.again(2, 9, 1), 10);
        due("nothing is lost, nothing costs", x.again(2, 9, 0), 1);
        due("waiting costs nothing", x.again(0, 0, 1), 20);
        due("180 days", x.again(3, 1, 9999), 180);
        x.turn(1);
        Due.text(x, "late 10*season;write 0;keep 0;");
        x.force(1);
        due("200 days", x.again(3, 1, 9999), 200);
        due("late too", x.again(0, 3, 29), 1);
        due("late too", x.again(0, 3, 30), 40);
        x.turn(2);
        due("never behind there and back", x.again(3, 1, 9999), 1);
        due("that never costs less", x.again(3, 0, 9999), 1);
    }

    private static void surer() {
        LettersThatCross x = new LettersThatCross();
        due("of no ways", x.surer(0, 0), NO);
        int[] loses = {20, 50, 0, 100};
        for (int l : loses) {
            x.way(1, 1, l, 0);
        }
        long[][] want = {{1, 9, 10}, {10, 9, 10}, {0, 4, 5}, {11, 1, 2}, {2, 1, 1}, {22, 1, 1}, {33, 0, 1}, {3, 4, 5}, {31, 1, 2},
            {23, 1, 1}};
        for (long[] w : want) {
            due("surer(" + w[0] + ", 0)", x.surer((int) w[0], 0), w[1]);
            due("surer(" + w[0] + ", 1)", x.surer((int) w[0], 1), w[2]);
        }
        int[] none = {4, 40, 44, 14, -1, -10, 9, 100, 110, Integer.MIN_VALUE, Integer.MAX_VALUE};
        for (int two : none) {
            due("surer(" + two + ", 0)", x.surer(two, 0), NO);
        }
        due("part 2", x.surer(1, 2), NO);
        due("part -1", x.surer(1, -1), NO);
        LettersThatCross y = new LettersThatCross();
        y.way(1, 1, 33, 0);
        y.way(1, 1, 77, 0);
        due("hundredths", y.surer(1, 0), 10000 - 33 * 77);
        due("hundredths", y.surer(1, 1), 10000);
        due("alone", y.surer(0, 0), 67);
        due("alone", y.surer(0, 1), 100);
        due("no third way", y.surer(2, 0), NO);
    }

    private static void copies() {
        LettersThatCross x = new LettersThatCross();
        due("by no way", x.copies(0, 101), -5);
        int[] loses = {20, 99, 0, 100};
        for (int l : loses) {
            x.way(1, 1, l, 0);
        }
        due("way 4", x.copies(4, 0), -5);
        due("way -1", x.copies(-1, 0), -5);
        due("sure 101", x.copies(0, 101), -7);
        due("sure -1", x.copies(0, -1), -7);
        int[][] want = {{0, 0, 0}, {0, 1, 1}, {0, 80, 1}, {0, 81, 2}, {0, 96, 2}, {0, 97, 3}, {0, 99, 3}, {0, 100, -1},
            {1, 0, 0}, {1, 1, 1}, {1, 2, 3}, {1, 7, 8}, {1, 8, -1}, {2, 0, 0}, {2, 1, 1}, {2, 100, 1}, {3, 0, 0}, {3, 1, -1}};
        for (int[] w : want) {
            due("copies(" + w[0] + ", " + w[1] + ")", x.copies(w[0], w[1]), w[2]);
        }
        LettersThatCross y = new LettersThatCross();
        y.way(1, 1, 50, 0);
        y.way(1, 1, 56, 0);
        y.way(1, 1, 57, 0);
        due("7 copies", y.copies(0, 99), 7);
        due("8 copies", y.copies(1, 99), 8);
        due("8 aren't enough", y.copies(2, 99), -1);
    }

    private static void costs() {
        LettersThatCross x = new LettersThatCross();
        x.way(1, 1, 0, 99);
        x.way(1, 1, 0, 7);
        due("of none", x.costs(), 0);
        x.write(0, 1, 0, 0, -1);
        due("of one", x.costs(), 99);
        x.write(4, 1, 0, 1, -1);
        due("of a doubled one", x.costs(), 99 + 106);
        x.write(4, 1, 0, 103, -1);
        due("of one doubled by its own", x.costs(), 99 + 106 + 14);
        x.lose(0, 3);
        due("of a lost one too", x.costs(), 99 + 106 + 14);
    }

    private static void odds() {
        LettersThatCross x = new LettersThatCross();
        due("of none", x.odds(0, 0), NO);
        x.way(1, 1, 20, 0);
        x.way(1, 1, 50, 0);
        x.write(1, 1, 0, 0, -1);
        x.write(4, 1, 0, 1, -1);
        x.write(4, 1, 0, 2, -1);
        x.write(5, 1, 0, 101, -1);
        x.write(0, 1, 0, 102, -1);
        x.write(3, 1, 0, 1, -1);
        x.lose(0, 3);
        long[][] want = {{4, 5}, {9, 10}, {4, 5}, {1, 2}, {1, 2}, {4, 5}};
        for (int l = 0; l < 6; l++) {
            due("odds(" + l + ", 0)", x.odds(l, 0), want[l][0]);
            due("odds(" + l + ", 1)", x.odds(l, 1), want[l][1]);
        }
        due("part 2", x.odds(0, 2), NO);
        due("part -1", x.odds(0, -1), NO);
        due("letter 6", x.odds(6, 0), NO);
        due("letter -1", x.odds(-1, 0), NO);
    }

    private static void drawn() {
        LettersThatCross x = new LettersThatCross();
        int[] loses = {50, 30, 70};
        for (int l : loses) {
            x.way(4, 1, l, 0);
        }
        for (int i = 0; i < 8; i++) {
            x.write(i % 2 == 0 ? 1 : 4, 1, i, 100 * (i % 3) + (i % 2 == 0 ? i : 9 - i), -1);
        }
        x.lose(0, 7);
        int[] seeds = {0, 1, 7, 4711, 47113, 99998, 99999};
        for (int seed : seeds) {
            int came = 0;
            int asks = 0;
            int holds = 0;
            long lot = seed + 1;
            for (int i = 0; i < 8; i++) {
                boolean[] lost = new boolean[3];
                for (int w = 0; w < 3; w++) {
                    lot = lot * 48271 % 2147483647;
                    lost[w] = lot % 100 < loses[w];
                }
                boolean comes = !lost[i % 3] || i % 2 == 1 && !lost[(9 - i) % 3];
                came |= comes ? 1 << i : 0;
                asks += comes && i % 2 == 0 ? 1 : 0;
                holds = comes && i % 2 == 0 ? i : holds;
            }
            due("drawn(" + seed + ", 1, 0)", x.drawn(seed, 1, 0), came);
            due("drawn(" + seed + ", 1, 1)", x.drawn(seed, 1, 1), asks);
            due("drawn(" + seed + ", 1, 2)", x.drawn(seed, 1, 2), holds);
            due("drawn(" + seed + ", 0, 2)", x.drawn(seed, 0, 2), 0);
        }
        due("lost as ahead of it", x.lose(0, 7), 7);
        due("none holds more by that", x.holdsThen(1, 0, 999), 6);
    }

    private static void drawnWhat() {
        LettersThatCross x = new LettersThatCross();
        x.way(4, 1, 0, 0);
        x.way(4, 1, 100, 0);
        x.hold(2, 0, 8);
        x.write(1, 1, 0, 5, -1);
        x.write(1, 1, 0, 106, -1);
        x.write(1, 2, 0, 17, -1);
        x.lose(0, 3);
        for (int seed = 0; seed < 100000; seed += 9999) {
            due("what came", x.drawn(seed, 0, 0), 1 | 4);
            due("asks", x.drawn(seed, 0, 1), 2);
            due("held", x.drawn(seed, 1, 2), 5);
            due("thing 0 alone", x.drawn(seed, 2, 2), 8);
        }
        due("seed -1", x.drawn(-1, 0, 0), -2);
        due("seed 100000", x.drawn(100000, 0, 0), -2);
        due("hand 3", x.drawn(0, 3, 0), -2);
        due("hand -1", x.drawn(0, -1, 0), -2);
        due("what 3", x.drawn(0, 0, 3), -2);
        due("what -1", x.drawn(0, 0, -1), -2);
    }

    private static void image() {
        LettersThatCross x = new LettersThatCross();
        due("none", x.back(), -3);
        x.way(5, 1, 0, 1);
        x.way(6, 1, 0, 1);
        Due.text(x, "late 3;write 0;keep 0;");
        x.hold(0, 2, 4);
        x.turn(6);
        x.force(1);
        x.write(1, 1, 0, 5, -1);
        x.write(1, 1, 1, 6, -1);
        x.lose(1, 3);
        due("image", x.image(), 2);
        x.hold(0, 2, 5);
        x.hold(1, 1, 9);
        x.turn(2);
        x.force(0);
        x.lose(0, 1);
        x.lose(1, 0);
        x.write(1, 1, 9, 7, 1);
        x.write(1, 1, 300, 8, 1);
        due("late by season", x.arrive(0, 0), 15);
        due("back", x.back(), 2);
        due("letters", x.count(1), 2);
        due("season", x.count(2), 6);
        due("law", x.count(4), 1);
        due("days by the law", x.arrive(0, 0), 8);
        due("held", x.holdsThen(0, 2, 0), 4);
        due("held", x.holdsThen(1, 1, 999), 0);
        due("not lost", x.told(0, 8), 8);
        due("lost", x.told(1, 8), -1);
        due("never written", x.told(2, 0), -5);
        due("it lies nowhere", x.taken(6, 0), -11);
        due("it doesn't come", x.holdsThen(1, 0, 999), 5);
        due("written anew, on a day ahead of it", x.write(0, 1, 2, 19, 0), 2);
        due("written anew", x.told(2, 6), 9);
        due("it isn't lost", x.told(2, 8), 10);
        due("back once more", x.back(), 2);
        due("a later image", x.image(), 2);
        x.lose(1, 0);
        x.write(0, 1, 2, 19, 0);
        due("the later image", x.image(), 3);
        x.lose(2, 3);
        x.lose(0, 2);
        x.hold(2, 3, 7);
        due("back to it", x.back(), 3);
        due("by none the first is lost", x.lose(0, 3), 0);
        due("held", x.hold(2, 3, 6), 0);
        due("an image of these", x.image(), 3);
        x.lose(0, 0);
        x.hold(2, 3, 0);
        due("back to these", x.back(), 3);
        due("the first is lost by both", x.lose(0, 0), 3);
        due("held", x.hold(2, 3, 0), 6);
        due("lost no more", x.told(1, 8), 9);
        due("the last one neither", x.told(2, 8), 10);
    }

    private static void imageKeepsNoMore() {
        LettersThatCross x = new LettersThatCross();
        x.way(5, 1, 0, 1);
        x.write(0, 1, 3, 0, -1);
        x.sheet(0, 2, 3);
        due("image", x.image(), 1);
        x.way(6, 1, 0, 1);
        Due.text(x, "late 3;write 0;keep 0;");
        x.feed(7L, 2);
        x.sheet(0, -1, 0);
        x.sheet(1, 2, 5);
        due("back", x.back(), 1);
        due("ways", x.count(0), 2);
        due("texts", x.count(3), 2);
        due("tape", x.count(5), 2);
        due("a sheet that is missing", x.cell(0, 0, 0), -11);
        due("a sheet that isn't", x.cell(1, 4, 0), 1);
        LettersThatCross y = new LettersThatCross();
        due("image of nothing", y.image(), 0);
        y.way(1, 1, 0, 0);
        y.write(0, 1, 0, 0, -1);
        due("back to nothing", y.back(), 0);
        due("letters", y.count(1), 0);
        due("ways stay", y.count(0), 1);
    }
}
