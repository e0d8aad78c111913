/** Promises 1 to 8 at their bounds: a new object, ways, season, hands, days. */
public final class WaysEdgesTest {
    private static final Edges EDGES = new Edges("WaysEdgesTest");
    private static final long NO = -4611686018427387904L;

    public static void main(String[] args) {
        newObject();
        way();
        wayAtItsBounds();
        turn();
        hold();
        count();
        arrive();
        goesOnAMultiple();
        lateBounds();
        lateNames();
        cheapest();
        cheapestOfLikeOnes();
        last();
        EDGES.close();
    }

    private static void due(String calls, long want) {
        EDGES.due(calls, want);
    }

    private static long[] at(long number, long answer) {
        return Edges.at(number, answer);
    }

    /** No WAYS, LETTERS; all as it is at first. */
    private static void newObject() {
        String[] calls = {"count 0", "count 1", "count 2", "count 4", "count 5", "turn 0", "hold 0 0 0", "hold 2 3 0",
            "way 1 1 0 0", "force 0", "holdsThen 0 0 0", "holdsThen 2 3 999", "archive 0 0 0", "archive 2 999 1", "both 0 0",
            "both 999 0", "never 0 0", "never 999 1", "lacks 1 0", "lacks 21 999", "forged", "costs", "drawn 0 0 0",
            "drawn 99999 2 1", "drawn 99999 2 2", "image", "many 0 1 0"};
        for (String call : calls) {
            due(call, 0);
        }
        String[] none = {"cheapest 0 999", "lose 0 0", "knew 1 0 999 0", "knew 1 0 999 1", "first 1 0 0", "both 999 1"};
        for (String call : none) {
            due(call, -1);
        }
        String[] noSuch = {"arrive 0 0", "last 0 999", "told 0 0", "isTrue 0", "sure 0 0", "crosses 0 1", "crosses 0 0", "crossed 0",
            "times 0 0", "whatever 0 0 0", "bargain 0 0", "obeys 0 0", "line 0", "ring 0 0 0", "ends 0 0", "again 0 0 0", "copies 0 0"};
        for (String call : noSuch) {
            due(call, -5);
        }
        String[] missing = {"cell 0 0 0", "cell 3 0 0", "copy 0 0 0 0 0", "copy 3 0 0 0 0", "lettersBy 0 0 0 0", "lettersBy 3 2 0 8",
            "taken 0 0", "taken 3 6", "taken 4 0", "taken 19 6"};
        for (String call : missing) {
            due(call, -11);
        }
        due("count 3", 1);
        due("force 1", -2);
        due("write 0 1 0 0 -1", -2);
        due("surer 0 0", NO);
        due("odds 0 0", NO);
        due("back", -3);
        due("text", -100);
    }

    private static void way() {
        EDGES.number("", "way # 1 0 0", at(1, 0), at(90, 0), -2);
        EDGES.number("", "way 1 # 0 0", at(1, 0), at(30, 0), -2);
        EDGES.number("", "way 1 1 # 0", at(0, 0), at(100, 0), -2);
        EDGES.number("", "way 1 1 0 #", at(0, 0), at(99, 0), -2);
        EDGES.number(States.LETTERS, "way # 30 100 99", at(1, 2), at(90, 2), -2);
        due("way 1 1 0 0 | way 1 1 0 0 | way 1 1 0 0 | way 1 1 0 0", 3);
        EDGES.refused(States.FOUR_WAYS, "way 1 1 0 0", -4);
        EDGES.refused(States.FULL, "way 90 30 100 99", -4);
        EDGES.outside(States.FOUR_WAYS, "way # 1 0 0", 1, 90, -2);
        EDGES.outside(States.FOUR_WAYS, "way 1 # 0 0", 1, 30, -2);
        EDGES.outside(States.FOUR_WAYS, "way 1 1 # 0", 0, 100, -2);
        EDGES.outside(States.FULL, "way 1 1 0 #", 0, 99, -2);
    }

    private static void wayAtItsBounds() {
        due("way 1 1 0 0 | arrive 0 0", 1);
        due("way 90 1 0 0 | arrive 0 0", 90);
        due("way 1 1 0 0 | arrive 0 1", 2);
        due("way 1 30 0 0 | arrive 0 1", 31);
        due("way 1 1 0 0 | copies 0 100", 1);
        due("way 1 1 100 0 | copies 0 1", -1);
        due("way 1 1 0 0 | taken 0 6", 0);
        due("way 1 1 0 99 | taken 0 6", 99);
        due(States.FOUR_WAYS + " | taken 3 6", 0);
        due(States.FOUR_WAYS + " | taken 2 6", 99);
    }

    private static void turn() {
        EDGES.number("", "turn #", at(0, 0), at(9, 0), -2);
        EDGES.number("turn 9", "turn #", at(0, 9), at(9, 9), -2);
        EDGES.outside(States.FULL, "turn #", 0, 9, -2);
        EDGES.outside(States.BACK, "turn #", 0, 9, -2);
        due("turn 9 | count 2", 9);
        due("turn 9 | turn 0 | count 2", 0);
        due(States.BACK + " | turn 0", 1);
    }

    private static void hold() {
        EDGES.number("", "hold # 3 9", at(0, 0), at(2, 0), -1);
        EDGES.number("", "hold 2 # 9", at(0, 0), at(3, 0), -1);
        EDGES.number("", "hold 2 3 #", at(0, 0), at(9, 0), -2);
        EDGES.outside("", "hold # 0 10", 0, 2, -1);
        EDGES.outside("", "hold 0 # -1", 0, 3, -1);
        EDGES.refused("", "hold 3 4 10", -1);
        EDGES.outside(States.FULL, "hold 2 3 #", 0, 9, -2);
        due("hold 2 3 9 | hold 2 3 0", 9);
        due("hold 2 3 9 | hold 2 3 0 | hold 2 3 1", 0);
        due("hold 0 0 9 | hold 0 1 1", 0);
        due("hold 0 3 9 | hold 1 0 1", 0);
        due(States.BACK + " | hold 0 1 0", 6);
        due(States.BACK + " | hold 2 2 0", 0);
    }

    private static void count() {
        EDGES.number("", "count #", at(0, 0), at(5, 0), -2);
        EDGES.outside(States.FULL, "count #", 0, 5, -2);
        long[] full = {4, 16, 9, 6, 5, 160};
        long[] back = {3, 5, 1, 2, 1, 0};
        for (int what = 0; what < 6; what++) {
            due(States.FULL + " | count " + what, full[what]);
            due(States.BACK + " | count " + what, back[what]);
        }
    }

    private static void arrive() {
        EDGES.number("way 5 1 0 1", "arrive # 0", at(0, 5), at(0, 5), -5);
        EDGES.number(States.FOUR_WAYS, "arrive # 0", at(0, 5), at(3, 1), -5);
        EDGES.number(States.FOUR_WAYS, "arrive 3 #", at(0, 1), at(400, 401), -7);
        EDGES.outside(States.WAYS, "arrive # 401", 0, 1, -5);
        EDGES.refused("", "arrive 0 401", -5);
        EDGES.refused("", "arrive 0 0", -5);
    }

    /** The first multiple of EVERY from that day on. */
    private static void goesOnAMultiple() {
        long[][] days = {{0, 1}, {1, 31}, {29, 31}, {30, 31}, {31, 61}, {60, 61}, {390, 391}, {391, 421}, {400, 421}};
        for (long[] d : days) {
            due("way 1 30 0 0 | arrive 0 " + d[0], d[1]);
        }
        due("way 1 2 0 0 | arrive 0 399", 401);
        due("way 1 2 0 0 | arrive 0 400", 401);
        due("way 1 1 0 0 | arrive 0 399", 400);
        due("way 1 29 0 0 | arrive 0 400", 407);
    }

    private static void lateBounds() {
        String[] way1 = {"0 - 1", "98", "99", "100", "9999", "8192*8192*32 - 1"};
        long[] days1 = {1, 99, 100, 100, 100, 100};
        for (int i = 0; i < way1.length; i++) {
            due("way 1 1 0 0 | read late " + way1[i] + ";write 0;keep 0; | force 1 | arrive 0 0", days1[i]);
        }
        String[] way90 = {"- 87", "- 88", "- 89", "- 90", "- 98", "- 99", "- 100", "- 9999", "8192*8192*32", "-(8192*8192*32)", "98",
            "99", "100", "111"};
        long[] days90 = {3, 2, 1, 1, 1, 1, 1, 1, 1, 1, 188, 189, 189, 189};
        for (int i = 0; i < way90.length; i++) {
            due("way 90 1 0 0 | read late " + way90[i] + ";write 0;keep 0; | force 1 | arrive 0 0", days90[i]);
        }
        due("way 90 30 0 0 | read late 99;write 0;keep 0; | force 1 | arrive 0 400", 420 + 189);
        due("way 90 30 0 0 | turn 1 | arrive 0 400", 420 + 180);
        due("way 90 30 0 0 | turn 9 | arrive 0 400", 420 + 189);
        due("way 1 1 0 0 | turn 9 | arrive 0 400", 400 + 10);
    }

    /** Of LATE: SEASON and TAKES, the others 0; also for a way that comes, a season that turns, behind back(). */
    private static void lateNames() {
        String law = " | read late had + wrote + age + day;write 0;keep 0; | force 1 | arrive 0 7";
        due("way 5 1 0 0 | turn 9" + law, 12);
        due("turn 3 | read late season + long;write 0;keep 0; | force 1 | way 5 1 0 0 | arrive 0 0", 13);
        due("way 5 1 0 0 | turn 9 | turn 0 | arrive 0 0", 5);
        due("way 5 1 0 0 | image | turn 9 | back | arrive 0 0", 5);
        due("way 5 1 0 0 | turn 9 | image | turn 0 | back | arrive 0 0", 50);
        due("turn 1 | image | turn 0 | way 5 1 0 0 | back | arrive 0 0", 10);
        due("way 5 1 0 0 | image | read late 9;write 0;keep 0; | force 1 | back | arrive 0 0", 5);
    }

    private static void cheapest() {
        EDGES.number("way 5 1 0 1", "cheapest # 999", at(0, 0), at(400, 0), -2);
        EDGES.number("way 5 1 0 1", "cheapest 0 #", at(0, -1), at(999, 0), -2);
        EDGES.outside("", "cheapest # 999", 0, 400, -2);
        EDGES.outside("", "cheapest 0 #", 0, 999, -2);
        EDGES.outside(States.FULL, "cheapest # 0", 0, 400, -2);
        due("cheapest 400 999", -1);
        due("way 5 1 0 1 | cheapest 0 5", 0);
        due("way 5 1 0 1 | cheapest 0 4", -1);
        due("way 5 1 0 1 | cheapest 400 405", 0);
        due("way 5 1 0 1 | cheapest 400 404", -1);
        due("way 5 1 0 1 | cheapest 400 0", -1);
        due("way 90 30 0 0 | turn 9 | cheapest 400 609", 0);
        due("way 90 30 0 0 | turn 9 | cheapest 400 608", -1);
    }

    private static void cheapestOfLikeOnes() {
        due("way 9 1 0 3 | way 8 1 0 3 | cheapest 0 9", 1);
        due("way 8 1 0 3 | way 9 1 0 3 | cheapest 0 9", 0);
        due("way 8 1 0 3 | way 8 1 0 3 | way 8 1 0 3 | way 8 1 0 3 | cheapest 0 8", 0);
        due("way 1 1 0 99 | way 8 1 0 98 | cheapest 0 8", 1);
        due("way 1 1 0 99 | way 8 1 0 98 | cheapest 0 7", 0);
        due("way 1 1 0 1 | way 1 1 0 1 | way 1 1 0 1 | way 90 1 0 0 | cheapest 0 90", 3);
        due("way 1 1 0 1 | way 1 1 0 1 | way 1 1 0 1 | way 90 1 0 0 | cheapest 0 89", 0);
        due("way 1 9 0 3 | way 5 1 0 3 | cheapest 0 20", 0);
        due("way 1 9 0 3 | way 5 1 0 3 | cheapest 1 20", 1);
    }

    private static void last() {
        EDGES.number("way 5 1 0 1", "last # 999", at(0, 400), at(0, 400), -5);
        EDGES.number(States.FOUR_WAYS, "last # 95", at(0, 90), at(3, 94), -5);
        EDGES.number("way 5 1 0 1", "last 0 #", at(0, -1), at(999, 400), -7);
        EDGES.outside(States.WAYS, "last # 1000", 0, 1, -5);
        EDGES.refused("", "last 0 1000", -5);
        long[][] days = {{4, -1}, {5, 0}, {6, 1}, {404, 399}, {405, 400}, {406, 400}};
        for (long[] d : days) {
            due("way 5 1 0 1 | last 0 " + d[0], d[1]);
        }
        long[][] every30 = {{0, -1}, {1, 0}, {30, 0}, {31, 30}, {420, 390}, {421, 400}, {422, 400}, {999, 400}};
        for (long[] d : every30) {
            due("way 1 30 0 1 | last 0 " + d[0], d[1]);
        }
        due("way 90 30 0 0 | turn 9 | last 0 188", -1);
        due("way 90 30 0 0 | turn 9 | last 0 189", 0);
        due("way 90 30 0 0 | turn 9 | last 0 608", 390);
        due("way 90 30 0 0 | turn 9 | last 0 609", 400);
    }
}
