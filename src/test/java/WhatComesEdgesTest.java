/** Promises 15 to 23 at their bounds: what is held and known, what is true, archives, chains, letters that cross. */
public final class WhatComesEdgesTest {
    private static final Edges EDGES = new Edges("WhatComesEdgesTest");
    /** Way 0 takes 5 days, way 1 takes 10. */
    private static final String TWO = "way 5 1 0 0 | way 10 1 0 0 | ";
    private static final long[] NOT_TWO = {0, 11, 22, 3, 13, 23, 30, 31, 32, 33, -1, -10, -12, 100, 101, 110, Integer.MIN_VALUE,
        Integer.MAX_VALUE};

    public static void main(String[] args) {
        holdsThen();
        asks();
        ifs();
        undone();
        takenBack();
        knew();
        asOf();
        toldOfADay();
        first();
        isTrue();
        archive();
        sure();
        both();
        crosses();
        crossed();
        EDGES.close();
    }

    private static void due(String calls, long want) {
        EDGES.due(calls, want);
    }

    private static long[] at(long number, long answer) {
        return Edges.at(number, answer);
    }

    private static void holdsThen() {
        EDGES.number(States.LETTERS, "holdsThen # 0 999", at(0, 0), at(2, 0), -5);
        EDGES.number(States.LETTERS, "holdsThen 0 # 999", at(0, 0), at(3, 0), -5);
        EDGES.number(States.LETTERS, "holdsThen 1 0 #", at(0, 0), at(999, 7), -7);
        EDGES.number(States.NEW, "holdsThen 2 3 #", at(0, 0), at(999, 0), -7);
        EDGES.number("hold 2 3 9", "holdsThen 2 3 #", at(0, 9), at(999, 9), -7);
        EDGES.outside(States.FULL, "holdsThen # 4 1000", 0, 2, -5);
        EDGES.outside(States.BACK, "holdsThen 3 # -1", 0, 3, -5);
        EDGES.refused(States.LETTERS, "holdsThen 0 4 0", -5);
        EDGES.refused(States.LETTERS, "holdsThen 3 0 1000", -5);
        due(States.LETTERS + " | holdsThen 1 0 9", 0);
        due(States.LETTERS + " | holdsThen 1 0 10", 7);
    }

    /** DONE: the reader holds MORE of its THING, behind the day on which it comes. */
    private static void asks() {
        due(TWO + "hold 1 3 5 | write 1 1 0 30 -1 | holdsThen 1 3 4", 5);
        due(TWO + "hold 1 3 5 | write 1 1 0 30 -1 | holdsThen 1 3 5", 0);
        due(TWO + "write 1 1 0 39 -1 | holdsThen 1 3 5", 9);
        due(TWO + "write 1 1 0 39 -1 | lose 0 1 | holdsThen 1 3 999", 0);
        due(TWO + "write 1 1 0 9 -1 | holdsThen 0 0 999", 0);
        due("way 90 30 0 0 | turn 9 | write 1 1 400 9 -1 | holdsThen 1 0 608", 0);
        due("way 90 30 0 0 | turn 9 | write 1 1 400 9 -1 | holdsThen 1 0 609", 9);
        int[] asks = {0, 9, 0, 9, 0, 0};
        for (int kind = 0; kind < 6; kind++) {
            due(TWO + "hold 1 1 9 | write " + kind + " 1 0 9 -1 | holdsThen 1 0 5", asks[kind]);
        }
        due(TWO + "write 1 1 0 2 -1 | write 1 21 0 1 -1 | holdsThen 1 0 5", 1);
        due(TWO + "write 1 1 0 101 -1 | write 1 21 5 2 -1 | holdsThen 1 0 10", 2);
        due(TWO + "write 1 1 0 102 -1 | write 1 21 4 1 -1 | holdsThen 1 0 10", 2);
    }

    /** MAY be, if its reader holds MORE, or more, of the next THING, round. */
    private static void ifs() {
        int[][] held = {{0, 0, 1}, {0, 1, 0}, {1, 1, 1}, {8, 9, 0}, {9, 9, 1}, {9, 1, 1}, {9, 0, 1}};
        for (int[] h : held) {
            for (int thing = 0; thing < 4; thing++) {
                String write = "write 3 1 0 " + (10 * thing + h[1]) + " -1";
                String calls = TWO + "hold 1 " + (thing + 1) % 4 + " " + h[0] + " | " + write + " | ";
                due(calls + "times 0 999", h[2]);
            }
        }
        due(TWO + "hold 1 2 9 | hold 1 3 9 | hold 1 0 9 | hold 0 1 9 | hold 2 1 9 | write 3 1 0 5 -1 | times 0 5", 0);
        due(TWO + "write 1 1 0 15 -1 | write 3 1 0 5 -1 | times 1 5", 1);
        due(TWO + "write 3 1 0 5 -1 | write 1 1 0 15 -1 | times 0 999", 0);
        due(TWO + "hold 1 1 9 | write 3 1 0 105 -1 | write 5 1 0 0 0 | times 0 999", 0);
        due(TWO + "write 3 1 0 100 -1 | write 5 1 0 0 0 | times 0 999", 0);
    }

    private static void undone() {
        due(TWO + "write 1 1 0 107 -1 | write 5 1 0 0 0 | holdsThen 1 0 999", 0);
        due(TWO + "write 1 1 0 107 -1 | write 5 1 4 0 0 | holdsThen 1 0 999", 0);
        due(TWO + "write 1 1 0 107 -1 | write 5 1 4 0 0 | lose 1 1 | holdsThen 1 0 999", 7);
        due(TWO + "write 1 1 0 107 -1 | write 5 1 4 0 -1 | holdsThen 1 0 999", 7);
        due(TWO + "write 1 1 0 107 -1 | write 2 1 4 0 0 | holdsThen 1 0 999", 7);
        due(TWO + "write 1 1 0 107 -1 | write 5 21 4 0 0 | holdsThen 1 0 999", 0);
        due(TWO + "write 1 1 0 107 -1 | write 5 2 4 0 0 | holdsThen 1 0 999", 0);
        due(TWO + "write 1 1 0 107 -1 | write 5 10 4 0 0 | holdsThen 1 0 999", 0);
        due(TWO + "write 0 1 0 107 -1 | write 5 1 4 0 0 | holdsThen 1 0 999", 0);
        due(TWO + "write 1 1 0 107 -1 | write 5 1 0 0 0 | write 5 1 1 0 1 | holdsThen 1 0 999", 0);
        due(TWO + "write 1 1 0 107 -1 | write 5 1 4 0 0 | write 1 1 5 106 0 | holdsThen 1 0 999", 6);
        for (int l = 1; l <= 14; l++) {
            String one = TWO + "write 0 2 0 0 -1 | ".repeat(l) + "hold 1 0 3 | write 1 1 0 7 -1 | write 5 1 ";
            due(one + "0 0 " + l + " | holdsThen 1 0 5", 3);
            due(one + "0 0 " + l + " | archive 1 5 1", 0);
            due(one + "1 0 " + l + " | archive 1 5 1", 1 << l);
            due(one + "1 0 " + l + " | archive 1 6 1", 0);
            String late = TWO + "write 0 2 0 0 -1 | ".repeat(l) + "write 1 1 0 107 -1 | write 5 1 4 0 ";
            due(late + l + " | times " + l + " 10", 0);
            due(late + (l - 1) + " | times " + l + " 10", 1);
        }
    }

    /** The reader holds what it held ahead of its being DONE, whatever came since. */
    private static void takenBack() {
        due(TWO + "hold 1 0 3 | write 1 1 0 7 -1 | write 5 1 5 0 0 | holdsThen 1 0 9", 7);
        due(TWO + "hold 1 0 3 | write 1 1 0 7 -1 | write 5 1 5 0 0 | holdsThen 1 0 10", 3);
        due(TWO + "hold 1 0 3 | write 1 1 0 7 -1 | write 5 1 0 0 0 | holdsThen 1 0 5", 3);
        due(TWO + "hold 1 0 3 | write 1 1 0 7 -1 | write 5 1 0 0 0 | archive 1 5 1", 0);
        due(TWO + "hold 1 0 3 | write 1 1 0 7 -1 | write 1 21 1 8 -1 | write 5 1 5 0 0 | holdsThen 1 0 10", 3);
        due(TWO + "hold 1 0 3 | write 1 1 0 7 -1 | write 1 21 1 8 -1 | write 5 1 5 0 0 | times 1 10", 1);
        due(TWO + "hold 1 0 3 | write 1 1 0 7 -1 | write 1 21 1 8 -1 | write 5 1 5 0 1 | holdsThen 1 0 10", 7);
        due(TWO + "hold 1 0 3 | write 1 1 0 7 -1 | write 5 1 5 0 0 | write 5 1 6 0 0 | holdsThen 1 0 11", 3);
        due(TWO + "hold 1 0 3 | write 1 1 0 7 -1 | write 5 1 1 0 0 | write 1 1 2 8 -1 | write 5 1 3 0 0 | holdsThen 1 0 11", 8);
        due(TWO + "hold 1 0 3 | hold 2 0 4 | write 1 1 0 7 -1 | write 5 2 5 0 0 | holdsThen 2 0 11", 4);
        due(TWO + "hold 1 0 3 | hold 1 3 4 | write 1 1 0 37 -1 | write 5 1 5 0 0 | holdsThen 1 3 11", 4);
        due(TWO + "hold 1 0 3 | hold 1 3 4 | write 1 1 0 37 -1 | write 5 1 5 0 0 | holdsThen 1 0 11", 3);
    }

    private static void knew() {
        String told = TWO + "hold 0 3 9 | write 0 1 4 30 -1";
        EDGES.number(told, "knew 10 # 999 1", at(0, -1), at(3, 4), -5);
        EDGES.number(told, "knew 10 3 # 0", at(0, -1), at(999, 9), -7);
        EDGES.number(told, "knew 10 3 999 #", at(0, 9), at(1, 4), -7);
        EDGES.refusedEach(told, "knew # 3 999 0", -5, NOT_TWO);
        EDGES.refusedEach("", "knew # 3 1000 2", -5, NOT_TWO);
        EDGES.outside(States.FULL, "knew 1 # 1000 2", 0, 3, -5);
        EDGES.outside(States.BACK, "knew 1 0 # 0", 0, 999, -7);
        EDGES.outside("", "knew 21 0 0 #", 0, 1, -7);
        EDGES.refused("", "knew 21 3 1000 2", -7);
        for (int two : new int[] {1, 2, 10, 12, 20, 21}) {
            due(told + " | knew " + two + " 3 999 0", two == 10 ? 9 : -1);
            due(told + " | knew " + two + " 3 999 1", two == 10 ? 4 : -1);
        }
        due(TWO + "write 0 10 0 30 -1 | knew 2 0 999 0", -1);
        due(TWO + "write 0 21 0 30 -1 | knew 20 0 999 0", -1);
        due(TWO + "write 0 2 0 30 -1 | knew 21 0 999 0", -1);
        due(TWO + "write 0 20 0 0 -1 | knew 1 3 999 0", -1);
        due(told + " | knew 10 3 8 0", -1);
        due(told + " | knew 10 3 8 1", -1);
        due(told + " | knew 10 3 9 0", 9);
        due(TWO + "write 0 1 0 30 -1 | knew 10 3 5 0", 0);
        due(TWO + "write 0 1 0 30 -1 | knew 10 3 5 1", 0);
        due(TWO + "write 0 1 400 30 -1 | knew 10 3 405 1", 400);
        due(TWO + "write 0 1 0 30 -1 | lose 0 1 | knew 10 3 999 0", -1);
        due(TWO + "write 0 1 0 30 -1 | lose 0 1 | knew 10 3 999 1", -1);
    }

    /** Nothing is told, if what is known is as of a later day; of a like day it is. */
    private static void asOf() {
        String one = TWO + "write 1 20 0 4 -1 | ";
        due(one + "write 0 1 4 100 -1 | write 0 1 5 0 -1 | knew 10 0 10 0", 4);
        due(one + "write 0 1 4 100 -1 | write 0 1 5 0 -1 | knew 10 0 14 0", 4);
        due(one + "write 0 1 4 100 -1 | write 0 1 5 0 -1 | knew 10 0 14 1", 5);
        due(one + "write 0 1 4 100 -1 | write 0 1 9 0 -1 | knew 10 0 14 0", 4);
        due(one + "write 0 1 4 100 -1 | write 0 1 9 0 -1 | knew 10 0 14 1", 9);
        due(one + "write 0 1 4 100 -1 | write 0 1 10 0 -1 | knew 10 0 14 0", 0);
        due(one + "write 0 1 4 0 -1 | write 0 1 4 100 -1 | knew 10 0 14 1", 4);
        due(one + "write 0 1 4 0 -1 | write 0 1 5 0 -1 | knew 10 0 9 0", 0);
        due(one + "write 0 1 4 0 -1 | write 0 1 5 0 -1 | knew 10 0 10 0", 4);
        due(one + "write 0 1 4 100 -1 | write 0 1 5 10 -1 | knew 10 0 14 0", 0);
        due(one + "write 0 1 4 100 -1 | write 0 2 5 0 -1 | knew 10 0 14 0", 0);
        due(one + "write 0 1 4 100 -1 | write 0 1 5 0 -1 | lose 2 1 | knew 10 0 14 1", 4);
    }

    /** What its writer held behind the day on which it was written: what came on that day is held already. */
    private static void toldOfADay() {
        due(TWO + "write 1 20 0 4 -1 | write 0 1 4 0 -1 | knew 10 0 99 0", 0);
        due(TWO + "write 1 20 0 4 -1 | write 0 1 5 0 -1 | knew 10 0 99 0", 4);
        due(TWO + "write 1 20 0 104 -1 | write 0 1 5 0 -1 | knew 10 0 10 0", 0);
        due(TWO + "write 1 20 0 4 -1 | write 1 20 0 6 -1 | write 0 1 5 0 -1 | knew 10 0 99 0", 6);
        due(TWO + "hold 0 0 9 | write 0 1 0 0 -1 | write 1 20 0 4 -1 | knew 10 0 99 0", 9);
        due(TWO + "write 1 20 0 4 -1 | write 5 20 3 0 0 | write 0 1 8 0 -1 | knew 10 0 99 0", 0);
        due(TWO + "write 1 20 0 4 -1 | write 5 20 3 0 0 | write 0 1 7 0 -1 | write 0 1 7 110 -1 | knew 10 0 99 0", 4);
        for (int kind = 0; kind < 6; kind++) {
            due(TWO + "hold 0 1 8 | write " + kind + " 1 3 10 -1 | knew 10 1 13 0", 8);
            due(TWO + "hold 0 1 8 | write " + kind + " 1 3 10 -1 | knew 10 1 13 1", 3);
        }
    }

    private static void first() {
        String told = TWO + "hold 0 3 9 | write 0 1 4 30 -1";
        EDGES.number(told, "first 10 # 9", at(0, -1), at(3, 9), -5);
        EDGES.number(told, "first 10 3 #", at(0, -1), at(9, 9), -7);
        EDGES.refusedEach(told, "first # 3 9", -5, NOT_TWO);
        EDGES.refusedEach("", "first # 3 10", -5, NOT_TWO);
        EDGES.outside(States.FULL, "first 1 # 10", 0, 3, -5);
        EDGES.outside("", "first 1 0 #", 0, 9, -7);
        EDGES.outside(States.BACK, "first 1 0 #", 0, 9, -7);
        due("first 10 0 0", -1);
        due(TWO + "first 10 0 0", -1);
        due(TWO + "write 0 1 0 0 -1 | first 10 0 0", 5);
        due(TWO + "write 0 1 0 0 -1 | first 1 0 0", -1);
        due(TWO + "write 0 1 0 0 -1 | lose 0 1 | first 10 0 0", -1);
        due(TWO + "write 0 1 0 100 -1 | write 0 1 2 0 -1 | first 10 0 0", 7);
        due(TWO + "write 0 1 0 100 -1 | write 0 1 5 0 -1 | first 10 0 0", 10);
        due(TWO + "write 0 1 0 0 -1 | write 0 1 2 0 -1 | first 10 0 0", 5);
        due(TWO + "write 0 1 0 0 -1 | write 0 1 2 0 -1 | lose 1 1 | first 10 0 0", 5);
        due(TWO + "write 0 1 0 0 -1" + " | write 0 1 0 0 -1".repeat(15) + " | first 10 0 0", 5);
        due(States.FULL + " | first 21 0 9", -1);
        due(TWO + "hold 0 0 1 | write 1 20 0 2 -1 | write 0 1 4 100 -1 | write 0 1 9 0 -1 | first 10 0 1", -1);
        due(TWO + "hold 0 0 1 | write 1 20 0 2 -1 | write 0 1 4 0 -1 | write 0 1 5 0 -1 | first 10 0 1", 9);
        due(TWO + "hold 0 0 1 | write 1 20 0 2 -1 | write 0 1 4 0 -1 | write 0 1 5 0 -1 | first 10 0 2", 10);
        due("way 90 30 0 0 | turn 9 | write 0 1 400 0 -1 | first 10 0 0", 609);
    }

    private static void isTrue() {
        EDGES.number(States.LETTERS, "isTrue #", at(0, 1), at(4, 1), -5);
        EDGES.number(States.FULL + " | lose 15 0", "isTrue #", at(0, 1), at(15, 1), -5);
        EDGES.refused("", "isTrue 0", -5);
        EDGES.refused(States.WAYS, "isTrue 0", -5);
        EDGES.refused(States.LETTERS, "isTrue 3", -3);
        EDGES.refused(States.FULL, "isTrue 15", -3);
        EDGES.refused(States.BACK, "isTrue 5", -5);
        String told = TWO + "write 0 1 0 100 -1 | ";
        due(told + "write 1 20 4 6 -1 | isTrue 0", 0);
        due(told + "write 1 20 5 6 -1 | isTrue 0", 0);
        due(told + "write 1 20 6 6 -1 | isTrue 0", 1);
        due(told + "write 1 20 4 0 -1 | isTrue 0", 1);
        due(told + "write 1 20 4 16 -1 | isTrue 0", 1);
        due(told + "write 1 21 4 6 -1 | isTrue 0", 1);
        due(told + "write 1 20 3 6 -1 | write 5 20 5 0 1 | isTrue 0", 1);
        due(TWO + "write 1 20 0 6 -1 | write 0 1 4 100 -1 | isTrue 1", 0);
        due(TWO + "write 1 20 0 6 -1 | write 0 1 5 100 -1 | isTrue 1", 1);
        due(TWO + "hold 0 3 9 | write 0 1 0 130 -1 | write 1 20 4 39 -1 | isTrue 0", 1);
        due(TWO + "hold 0 3 9 | write 0 1 0 139 -1 | write 1 20 4 38 -1 | isTrue 0", 0);
        due(TWO + "write 0 1 0 102 -1 | write 1 20 4 29 -1 | isTrue 0", 1);
        due(TWO + "write 0 1 0 0 -1 | lose 0 2 | isTrue 0", 1);
        due(TWO + "write 0 1 0 0 -1 | lose 0 1 | isTrue 0", -3);
    }

    private static void archive() {
        EDGES.number(States.LETTERS, "archive # 999 0", at(0, 2), at(2, 0), -5);
        EDGES.number(States.LETTERS, "archive 1 # 0", at(0, 0), at(999, 21), -7);
        EDGES.number(States.LETTERS, "archive 1 999 #", at(0, 21), at(1, 1), -7);
        EDGES.outside("", "archive # 1000 2", 0, 2, -5);
        EDGES.outside("", "archive 0 # 2", 0, 999, -7);
        EDGES.outside(States.FULL, "archive 0 0 #", 0, 1, -7);
        EDGES.outside(States.BACK, "archive 2 # 1", 0, 999, -7);
        due(TWO + "write 1 1 0 0 -1 | archive 1 4 0", 0);
        due(TWO + "write 1 1 0 0 -1 | archive 1 5 0", 1);
        due(TWO + "write 1 1 0 0 -1 | archive 1 4 1", 0);
        due(TWO + "write 1 1 0 0 -1 | archive 1 5 1", 1);
        due(TWO + "write 1 1 0 0 -1 | archive 0 5 0", 0);
        due(TWO + "write 1 1 0 0 -1 | lose 0 1 | archive 1 999 0", 0);
        due(TWO + "write 1 1 0 0 -1 | archive 1 999 0 | archive 1 4 0", 0);
        due(TWO + "write 1 1 0 0 -1 | archive 1 999 1 | archive 1 4 1", 0);
        due(TWO + "write 0 1 0 0 -1" + " | write 0 1 0 0 -1".repeat(15) + " | archive 1 5 0", 65535);
        due(TWO + "write 1 1 0 0 -1" + " | write 1 1 0 0 -1".repeat(15) + " | archive 1 5 1", 65535);
    }

    private static void sure() {
        EDGES.number(States.LETTERS, "sure # 999", at(0, 2), at(4, 1), -5);
        EDGES.number(States.LETTERS, "sure 0 #", at(0, 0), at(999, 2), -7);
        EDGES.number(States.FULL + " | lose 15 0", "sure # 999", at(0, 1), at(15, 1), -5);
        EDGES.outside(States.LETTERS, "sure # 1000", 0, 4, -5);
        EDGES.outside(States.BACK, "sure 0 #", 0, 999, -7);
        EDGES.refused("", "sure 0 0", -5);
        String chain = TWO + "write 0 1 0 0 -1 | write 2 10 5 0 0 | write 5 1 10 0 1 | ";
        long[][] days = {{4, 0}, {5, 1}, {9, 1}, {10, 2}, {14, 2}, {15, 3}, {999, 3}};
        for (long[] d : days) {
            due(chain + "sure 0 " + d[0], d[1]);
            due(chain + "both " + d[0] + " 0", d[1]);
        }
        due(TWO + "write 0 1 0 0 -1 | write 0 10 5 0 0 | sure 0 999", 1);
        due(TWO + "write 0 1 0 0 -1 | write 1 10 5 0 0 | sure 0 999", 1);
        due(TWO + "write 0 1 0 0 -1 | write 5 10 5 0 0 | sure 0 999", 2);
        due(TWO + "write 0 1 0 0 -1 | write 2 10 0 0 0 | sure 0 5", 2);
        due(TWO + "write 0 1 0 0 -1 | write 2 1 5 0 0 | sure 0 999", 1);
        due(TWO + "write 0 1 0 0 -1 | write 2 12 5 0 0 | sure 0 999", 1);
        due(TWO + "write 0 1 0 0 -1 | write 2 20 5 0 0 | sure 0 999", 1);
        due(TWO + "write 0 1 0 0 -1 | write 2 10 5 0 -1 | sure 0 999", 1);
        due(TWO + "write 0 1 0 0 -1 | write 2 10 5 0 0 | lose 0 1 | sure 0 999", 0);
        due(TWO + "write 0 1 0 0 -1 | write 2 10 5 0 0 | lose 1 1 | sure 0 999", 1);
        StringBuilder sixteen = new StringBuilder(TWO + "write 0 1 0 0 -1 | ");
        for (int l = 1; l < 16; l++) {
            sixteen.append("write ").append(l % 2 == 0 ? 2 : 5).append(l % 2 == 0 ? " 1 0 0 " : " 10 0 0 ").append(l - 1).append(" | ");
        }
        due(sixteen + "sure 0 4", 0);
        due(sixteen + "sure 0 5", 16);
        due(sixteen + "sure 15 5", 1);
        due(sixteen + "both 5 0", 16);
        due(sixteen + "lose 8 1 | sure 0 999", 8);
        due(sixteen + "lose 8 1 | sure 8 999", 0);
        due(sixteen + "lose 0 1 | both 999 0", 15);
        due(sixteen + "lose 0 1 | both 999 1", 1);
    }

    private static void both() {
        EDGES.number(States.LETTERS, "both # 0", at(0, 0), at(999, 2), -2);
        EDGES.number(States.LETTERS, "both # 1", at(0, -1), at(999, 0), -2);
        EDGES.number(States.LETTERS, "both 999 #", at(0, 2), at(1, 0), -2);
        EDGES.outside("", "both # 0", 0, 999, -2);
        EDGES.outside("", "both 0 #", 0, 1, -2);
        EDGES.outside(States.FULL, "both 0 #", 0, 1, -2);
        EDGES.outside(States.BACK, "both # 1", 0, 999, -2);
        due(TWO + "write 0 1 0 0 -1 | sure 0 5 | sure 0 4", 0);
        due(TWO + "write 0 1 0 0 -1 | write 2 10 0 0 0 | lose 1 1 | sure 0 5 | lose 1 0 | both 5 0", 2);
        due(TWO + "both 999 0", 0);
        due(TWO + "both 999 1", -1);
        due(TWO + "write 0 1 0 0 -1 | both 4 1", -1);
        due(TWO + "write 0 1 0 0 -1 | both 5 1", 0);
        due(TWO + "write 0 1 0 0 -1 | lose 0 1 | both 999 1", -1);
        due(TWO + "write 0 1 0 100 -1 | write 0 1 0 0 -1 | both 5 1", 1);
        due(TWO + "write 0 1 0 100 -1 | write 0 1 0 0 -1 | both 10 1", 0);
    }

    private static void crosses() {
        EDGES.number(States.LETTERS, "crosses # 1", at(0, 1), at(4, 0), -5);
        EDGES.number(States.LETTERS, "crosses 1 #", at(0, 1), at(4, 0), -5);
        EDGES.number(States.FULL, "crosses # 7", at(0, 0), at(15, 0), -5);
        EDGES.outside(States.BACK, "crosses 0 #", 0, 4, -5);
        for (int l = 0; l < 16; l++) {
            EDGES.refused(States.FULL, "crosses " + l + " " + l, -5);
        }
        EDGES.refused("", "crosses 0 1", -5);
        EDGES.refused(TWO + "write 0 1 0 0 -1", "crosses 0 1", -5);
        EDGES.refused(TWO + "write 0 1 0 0 -1", "crosses 16 16", -5);
        String one = TWO + "write 0 1 2 0 -1 | ";
        due(one + "write 0 10 2 0 -1 | crosses 0 1", 1);
        due(one + "write 0 10 6 0 -1 | crosses 0 1", 1);
        due(one + "write 0 10 6 0 -1 | crosses 1 0", 1);
        due(one + "write 0 10 7 0 -1 | crosses 0 1", 0);
        due(one + "write 0 10 7 0 -1 | crosses 1 0", 0);
        due(one + "write 0 10 400 0 -1 | lose 0 1 | crosses 0 1", 1);
        due(one + "write 0 10 400 0 -1 | lose 0 1 | lose 1 1 | crosses 0 1", 1);
        due(one + "write 0 10 6 0 -1 | lose 1 1 | crosses 0 1", 1);
        due(one + "write 0 10 7 0 -1 | lose 1 1 | crosses 0 1", 0);
        due(one + "write 0 1 2 0 -1 | crosses 0 1", 0);
        due(one + "write 0 20 2 0 -1 | crosses 0 1", 0);
        due(one + "write 0 12 2 0 -1 | crosses 0 1", 0);
        due(one + "write 0 21 2 0 -1 | crosses 0 1", 0);
    }

    private static void crossed() {
        EDGES.number(States.LETTERS, "crossed #", at(0, 2), at(4, 8), -5);
        EDGES.number(States.FULL, "crossed #", at(0, 2 | 8), at(15, 1 << 12 | 1 << 14), -5);
        EDGES.refused("", "crossed 0", -5);
        EDGES.refused(States.WAYS, "crossed 0", -5);
        EDGES.refused(States.BACK, "crossed 5", -5);
        due(TWO + "write 0 1 2 0 -1 | crossed 0", 0);
        due(TWO + "write 0 1 2 0 -1 | write 0 10 6 0 -1 | write 0 10 7 0 -1 | crossed 0", 2);
        due(TWO + "write 0 1 2 0 -1 | write 0 10 6 0 -1 | write 0 10 7 0 -1 | crossed 2", 0);
        due(TWO + "write 0 1 0 0 -1 | write 0 10 0 0 -1" + " | write 0 10 0 0 -1".repeat(14) + " | crossed 0", 65534);
        due(TWO + "write 0 1 0 0 -1 | write 0 10 0 0 -1" + " | write 0 10 0 0 -1".repeat(14) + " | crossed 15", 1);
    }
}
