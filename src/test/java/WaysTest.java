/** Promises 1 to 8: a new object, ways, the season, hands, when letters come. */
public final class WaysTest {
    private static final Due DUE = new Due("WaysTest");

    public static void main(String[] args) {
        aNewObject();
        way();
        turn();
        hold();
        count();
        arrive();
        late();
        cheapest();
        last();
        DUE.close();
    }

    private static void due(String call, long got, long want) {
        DUE.due(call, got, want);
    }

    private static void aNewObject() {
        LettersThatCross x = new LettersThatCross();
        due("ways of a new one", x.count(0), 0);
        due("letters of a new one", x.count(1), 0);
        due("season of a new one", x.count(2), 0);
        due("texts of a new one", x.count(3), 1);
        due("law of a new one", x.count(4), 0);
        due("tape of a new one", x.count(5), 0);
        due("costs of a new one", x.costs(), 0);
        due("back of a new one", x.back(), -3);
        for (int h = 0; h < 3; h++) {
            for (int t = 0; t < 4; t++) {
                due("held at first", x.holdsThen(h, t, 0), 0);
            }
        }
        for (int s = 0; s < 4; s++) {
            due("a sheet of a new one", x.cell(s, 0, 0), -11);
        }
        for (int i = 0; i < 20; i++) {
            due("what lies there in a new one", x.taken(i, 0), -11);
        }
        LettersThatCross other = new LettersThatCross();
        x.way(5, 1, 0, 7);
        x.turn(3);
        x.hold(0, 0, 4);
        due("another one's ways", other.count(0), 0);
        due("another one's season", other.count(2), 0);
        due("another one's hands", other.hold(0, 0, 1), 0);
    }

    private static void way() {
        LettersThatCross x = new LettersThatCross();
        int[][] bad = {{0, 1, 0, 0}, {91, 1, 0, 0}, {-5, 1, 0, 0}, {1, 0, 0, 0}, {1, 31, 0, 0}, {1, 1, -1, 0},
            {1, 1, 101, 0}, {1, 1, 0, -1}, {1, 1, 0, 100}, {Integer.MIN_VALUE, 1, 0, 0}, {Integer.MAX_VALUE, 1, 0, 0}};
        for (int[] b : bad) {
            due("a bad way", x.way(b[0], b[1], b[2], b[3]), -2);
        }
        due("no bad way came", x.count(0), 0);
        due("the least way", x.way(1, 1, 0, 0), 0);
        due("the most way", x.way(90, 30, 100, 99), 1);
        due("way 2", x.way(2, 3, 4, 5), 2);
        due("way 3", x.way(2, 3, 4, 5), 3);
        due("a fifth way", x.way(2, 3, 4, 5), -4);
        due("a bad fifth way", x.way(0, 3, 4, 5), -2);
        due("four ways", x.count(0), 4);
        due("cost of way 0", x.taken(0, 6), 0);
        due("cost of way 1", x.taken(1, 6), 99);
        due("way 1 comes", x.arrive(1, 1), 120);
        due("way 1 loses", x.copies(1, 1), -1);
    }

    private static void turn() {
        LettersThatCross x = new LettersThatCross();
        x.way(10, 1, 0, 0);
        due("turn(9)", x.turn(9), 0);
        due("season", x.count(2), 9);
        due("turn(10)", x.turn(10), -2);
        due("turn(-1)", x.turn(-1), -2);
        due("season still", x.count(2), 9);
        due("late by the season", x.arrive(0, 0), 10 + 90);
        due("turn(0)", x.turn(0), 9);
        due("late no more", x.arrive(0, 0), 10);
    }

    private static void hold() {
        LettersThatCross x = new LettersThatCross();
        due("hold(2, 3, 9)", x.hold(2, 3, 9), 0);
        due("hold(2, 3, 1)", x.hold(2, 3, 1), 9);
        due("hold(2, 3, 10)", x.hold(2, 3, 10), -2);
        due("hold(2, 3, -1)", x.hold(2, 3, -1), -2);
        due("hold(3, 3, 10)", x.hold(3, 3, 10), -1);
        due("hold(-1, 3, 10)", x.hold(-1, 3, 10), -1);
        due("hold(2, 4, 10)", x.hold(2, 4, 10), -1);
        due("hold(2, -1, 10)", x.hold(2, -1, 10), -1);
        due("hold(2, 3, 0)", x.hold(2, 3, 0), 1);
        due("another thing", x.hold(2, 2, 5), 0);
        due("another hand", x.hold(1, 3, 5), 0);
        due("held", x.holdsThen(1, 3, 999), 5);
    }

    private static void count() {
        LettersThatCross x = new LettersThatCross();
        x.way(1, 1, 0, 0);
        x.way(1, 1, 0, 0);
        x.write(0, 1, 0, 0, -1);
        x.write(0, 1, 0, 0, -1);
        x.write(0, 1, 0, 0, -1);
        x.turn(7);
        Due.text(x, "late 0;write 0;keep 0;");
        Due.text(x, "late 0;write 0;keep 0;");
        Due.text(x, "late 0;write 0;keep 0;");
        x.force(2);
        x.feed(0, 5);
        int[] want = {2, 3, 7, 4, 2, 5};
        for (int what = 0; what < want.length; what++) {
            due("count(" + what + ")", x.count(what), want[what]);
        }
        due("count(6)", x.count(6), -2);
        due("count(-1)", x.count(-1), -2);
    }

    private static void arrive() {
        LettersThatCross x = new LettersThatCross();
        x.way(20, 14, 0, 0);
        due("on day 0", x.arrive(0, 0), 20);
        due("on day 1", x.arrive(0, 1), 34);
        due("on day 14", x.arrive(0, 14), 34);
        due("on day 15", x.arrive(0, 15), 48);
        due("on day 400", x.arrive(0, 400), 406 + 20);
        due("on day 401", x.arrive(0, 401), -7);
        due("on day -1", x.arrive(0, -1), -7);
        due("by no way", x.arrive(1, 0), -5);
        due("by no way, on no day", x.arrive(-1, 401), -5);
    }

    /** LATE is bounded, and so is what a way takes. */
    private static void late() {
        LettersThatCross x = new LettersThatCross();
        x.way(90, 1, 0, 0);
        x.way(3, 1, 0, 0);
        Due.text(x, "late 9999;write 0;keep 0;");
        Due.text(x, "late - 9999;write 0;keep 0;");
        Due.text(x, "late 2*long+season+1000*(had+wrote+age+day);write 0;keep 0;");
        Due.text(x, "late 110-long;write 0;keep 0;");
        x.force(1);
        due("late 99 at most, way 0", x.arrive(0, 1), 1 + 90 + 99);
        due("late 99 at most, way 1", x.arrive(1, 1), 1 + 3 + 99);
        x.force(2);
        due("early 99 at most, one day at least, way 0", x.arrive(0, 1), 2);
        due("early 99 at most, one day at least, way 1", x.arrive(1, 1), 2);
        x.force(3);
        x.turn(4);
        due("late by names, way 0", x.arrive(0, 0), 90 + 99);
        due("late by names, way 1", x.arrive(1, 0), 3 + 10);
        x.force(4);
        due("late 20", x.arrive(0, 0), 110);
        due("late 99 of 107", x.arrive(1, 0), 102);
    }

    private static void cheapest() {
        LettersThatCross x = new LettersThatCross();
        due("of no ways", x.cheapest(0, 999), -1);
        x.way(20, 1, 0, 5);
        x.way(10, 1, 0, 8);
        x.way(18, 7, 0, 5);
        x.way(30, 1, 0, 2);
        due("the least", x.cheapest(0, 30), 3);
        due("the least of those that come", x.cheapest(0, 29), 2);
        due("the earlier of like ones goes on a later day", x.cheapest(1, 29), 0);
        due("the least of two", x.cheapest(0, 19), 2);
        due("one alone", x.cheapest(0, 17), 1);
        due("just in time", x.cheapest(0, 10), 1);
        due("none", x.cheapest(0, 9), -1);
        due("on day 400", x.cheapest(400, 410), 1);
        due("on day 401", x.cheapest(401, 410), -2);
        due("on day -1", x.cheapest(-1, 410), -2);
        due("by day 999", x.cheapest(0, 999), 3);
        due("by day 1000", x.cheapest(0, 1000), -2);
        due("by day -1", x.cheapest(0, -1), -2);
        LettersThatCross y = new LettersThatCross();
        y.way(5, 2, 0, 3);
        y.way(5, 2, 0, 3);
        due("the first of like ones", y.cheapest(1, 99), 0);
        LettersThatCross z = new LettersThatCross();
        z.way(9, 1, 0, 3);
        z.way(8, 1, 0, 3);
        due("the one that comes first", z.cheapest(0, 99), 1);
    }

    private static void last() {
        LettersThatCross x = new LettersThatCross();
        x.way(20, 14, 0, 0);
        x.way(5, 1, 0, 0);
        due("by no way", x.last(2, 9999), -5);
        due("by day 1000", x.last(0, 1000), -7);
        due("by day -1", x.last(0, -1), -7);
        due("by day 19", x.last(0, 19), -1);
        due("by day 20", x.last(0, 20), 0);
        due("by day 33", x.last(0, 33), 0);
        due("by day 34", x.last(0, 34), 14);
        due("by day 425", x.last(0, 425), 392);
        due("by day 426", x.last(0, 426), 400);
        due("by day 999", x.last(0, 999), 400);
        due("way 1 by day 4", x.last(1, 4), -1);
        due("way 1 by day 0", x.last(1, 0), -1);
        due("way 1 by day 77", x.last(1, 77), 72);
        due("way 1 by day 405", x.last(1, 405), 400);
        due("way 1 by day 404", x.last(1, 404), 399);
        x.turn(1);
        due("late too", x.last(1, 77), 67);
        for (int by = 0; by < 1000; by += 7) {
            int want = -1;
            for (int d = 0; d <= 400; d++) {
                want = x.arrive(0, d) <= by ? d : want;
            }
            due("last(0, " + by + ")", x.last(0, by), want);
        }
    }
}
