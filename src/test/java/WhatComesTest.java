/** Promises 15 to 31: what is held and known, chains, letters that cross, asks, archives, bargains, orders. */
public final class WhatComesTest {
    private static final Due DUE = new Due("WhatComesTest");

    public static void main(String[] args) {
        asks();
        undoing();
        ifs();
        known();
        knownOfEach();
        knownOnOneDay();
        first();
        isTrue();
        archive();
        chains();
        crosses();
        timesAndNever();
        whatever();
        lacks();
        forged();
        bargain();
        obeys();
        line();
        refusals();
        DUE.close();
    }

    private static void due(String call, long got, long want) {
        DUE.due(call, got, want);
    }

    /** Way 0 takes 5 days, way 1 takes 10. */
    private static LettersThatCross withWays() {
        LettersThatCross x = new LettersThatCross();
        x.way(5, 1, 0, 1);
        x.way(10, 1, 0, 2);
        return x;
    }

    private static void asks() {
        LettersThatCross x = withWays();
        x.hold(1, 2, 4);
        x.write(1, 1, 0, 27, -1);
        x.write(0, 1, 1, 29, -1);
        x.write(2, 1, 1, 29, -1);
        x.write(4, 1, 1, 29, -1);
        due("ahead of it", x.holdsThen(1, 2, 4), 4);
        due("on the day", x.holdsThen(1, 2, 5), 7);
        due("no other kind asks", x.holdsThen(1, 2, 999), 7);
        due("its writer holds what it held", x.holdsThen(0, 2, 999), 0);
        x.write(1, 21, 2, 28, -1);
        x.write(1, 1, 2, 26, -1);
        due("two on one day: the last by numbers", x.holdsThen(1, 2, 7), 6);
        x.lose(5, 1);
        due("the one that isn't lost", x.holdsThen(1, 2, 7), 8);
        x.hold(1, 2, 9);
        due("at first", x.holdsThen(1, 2, 0), 9);
    }

    private static void undoing() {
        LettersThatCross x = withWays();
        x.hold(1, 0, 3);
        x.write(1, 1, 0, 105, -1);
        x.write(5, 1, 1, 0, 0);
        due("undone ahead of its coming", x.holdsThen(1, 0, 999), 3);
        due("never done", x.times(0, 999), 0);
        x.lose(1, 1);
        due("done as the other one is lost", x.holdsThen(1, 0, 10), 5);
        x.lose(1, 0);
        x.write(1, 1, 2, 7, -1);
        x.write(1, 1, 3, 8, -1);
        x.write(5, 20, 30, 0, 2);
        due("done", x.holdsThen(1, 0, 7), 7);
        due("done behind", x.holdsThen(1, 0, 8), 8);
        due("not taken back yet", x.holdsThen(1, 0, 34), 8);
        due("back to what was held ahead of it, whoever undoes", x.holdsThen(1, 0, 35), 3);
        due("not done any more", x.times(2, 35), 0);
        due("done until then", x.times(2, 34), 1);
        due("the other one is done still", x.times(3, 35), 1);
        x.write(5, 1, 31, 0, 2);
        due("undone twice takes nothing more back", x.holdsThen(1, 0, 36), 3);
        x.write(5, 1, 31, 0, -1);
        x.write(2, 1, 32, 0, 3);
        due("one that names none undoes none, an answering one neither", x.holdsThen(1, 0, 999), 3);
        due("done still", x.times(3, 999), 1);
        LettersThatCross y = withWays();
        y.write(1, 1, 0, 105, -1);
        y.write(5, 1, 5, 0, 0);
        due("done and undone on one day, by numbers", y.holdsThen(1, 0, 10), 0);
        due("done on that day no more", y.times(0, 10), 0);
        y.write(0, 1, 5, 0, -1);
        y.write(5, 1, 6, 0, 2);
        due("one that asks nothing is undone", y.holdsThen(1, 0, 999), 0);
    }

    private static void ifs() {
        LettersThatCross x = withWays();
        x.hold(1, 1, 4);
        x.write(3, 1, 0, 4, -1);
        due("as much of the next thing", x.holdsThen(1, 0, 5), 4);
        x.hold(1, 1, 5);
        due("more of it", x.holdsThen(1, 0, 5), 4);
        x.hold(1, 1, 3);
        due("less of it", x.holdsThen(1, 0, 999), 0);
        x.write(1, 21, 1, 18, -1);
        x.write(3, 1, 2, 2, -1);
        due("as held on that day", x.holdsThen(1, 0, 7), 2);
        x.hold(1, 0, 6);
        x.write(3, 1, 20, 36, -1);
        due("thing 0 is next to thing 3", x.holdsThen(1, 3, 25), 0);
        x.write(3, 1, 21, 32, -1);
        due("enough of thing 0", x.holdsThen(1, 3, 26), 2);
        x.write(1, 1, 22, 134, -1);
        x.write(3, 1, 23, 131, -1);
        x.write(5, 1, 24, 0, 6);
        due("an if that is undone", x.holdsThen(1, 3, 999), 4);
        x.lose(7, 1);
        due("an if that isn't", x.holdsThen(1, 3, 999), 1);
    }

    private static void known() {
        LettersThatCross x = withWays();
        x.hold(0, 1, 6);
        x.write(0, 1, 3, 110, -1);
        due("not yet", x.knew(10, 1, 12, 0), -1);
        due("as of no day", x.knew(10, 1, 12, 1), -1);
        due("told", x.knew(10, 1, 13, 0), 6);
        due("as of the day", x.knew(10, 1, 13, 1), 3);
        due("the writer knows nothing", x.knew(1, 1, 13, 0), -1);
        due("of another thing", x.knew(10, 2, 13, 0), -1);
        due("a third hand", x.knew(20, 1, 13, 0), -1);
        x.write(1, 20, 4, 12, -1);
        x.write(0, 1, 8, 110, -1);
        x.write(0, 1, 9, 10, -1);
        due("what it held behind the day", x.knew(10, 1, 14, 0), 2);
        due("as of a later day than what comes on day 18", x.knew(10, 1, 14, 1), 9);
        due("the older one tells nothing", x.knew(10, 1, 18, 1), 9);
        due("nothing of what it held", x.knew(10, 1, 18, 0), 2);
        x.lose(3, 1);
        due("as of the first one", x.knew(10, 1, 17, 1), 3);
        due("the older one tells, if the other one is lost", x.knew(10, 1, 18, 0), 6);
        due("as of its day", x.knew(10, 1, 18, 1), 8);
        due("ask known to none", x.knew(12, 1, 999, 0), -1);
        due("what the asking one held", x.knew(2, 1, 999, 0), 0);
        due("as of", x.knew(2, 1, 999, 1), 4);
    }

    private static void knownOfEach() {
        LettersThatCross x = withWays();
        int[] twos = {1, 2, 10, 12, 20, 21};
        for (int h = 0; h < 3; h++) {
            for (int t = 0; t < 4; t++) {
                x.hold(h, t, 3 * h + t);
            }
        }
        for (int i = 0; i < 12; i++) {
            x.write(0, twos[i % 6], i, 10 * (i / 3), -1);
        }
        for (int two : twos) {
            for (int t = 0; t < 4; t++) {
                int number = -1;
                for (int i = 0; i < 12; i++) {
                    boolean tells = twos[i % 6] == two % 10 * 10 + two / 10 && i / 3 == t;
                    number = tells ? i : number;
                }
                int held = 3 * (two % 10) + t;
                due("knew(" + two + ", " + t + ", 99, 0)", x.knew(two, t, 99, 0), number < 0 ? -1 : held);
                due("knew(" + two + ", " + t + ", 99, 1)", x.knew(two, t, 99, 1), number);
                due("first(" + two + ", " + t + ", " + held + ")", x.first(two, t, held), number < 0 ? -1 : number + 5);
            }
        }
    }

    /** A letter tells what is held behind the day, whatever came on that day. */
    private static void knownOnOneDay() {
        LettersThatCross x = withWays();
        x.write(1, 20, 0, 7, -1);
        x.write(0, 1, 5, 0, -1);
        x.write(0, 1, 5, 100, -1);
        due("what came on that day is told", x.knew(10, 0, 10, 0), 7);
        due("as of that day", x.knew(10, 0, 10, 1), 5);
        due("as of a like day", x.knew(10, 0, 15, 1), 5);
        LettersThatCross y = withWays();
        y.hold(0, 0, 1);
        y.write(1, 20, 0, 103, -1);
        y.write(0, 1, 5, 100, -1);
        y.write(0, 1, 10, 0, -1);
        due("of two that come on one day the later one's", y.knew(10, 0, 15, 0), 3);
        y.write(5, 2, 12, 100, 0);
        due("undoing tells too", y.knew(20, 0, 22, 0), 3);
        y.write(3, 2, 30, 9, -1);
        due("an if tells though it may not be", y.knew(20, 0, 35, 1), 30);
        y.write(4, 2, 40, 0, -1);
        due("a doubled one tells", y.knew(20, 0, 45, 1), 40);
        y.write(2, 2, 50, 0, -1);
        due("an answering one tells", y.knew(20, 0, 55, 1), 50);
    }

    private static void first() {
        LettersThatCross x = withWays();
        due("of no letters", x.first(10, 0, 0), -1);
        x.hold(0, 0, 3);
        x.write(0, 1, 2, 100, -1);
        x.write(1, 20, 10, 5, -1);
        x.write(0, 1, 16, 0, -1);
        x.write(1, 20, 20, 3, -1);
        x.write(0, 1, 26, 0, -1);
        due("of 3", x.first(10, 0, 3), 12);
        due("of 5", x.first(10, 0, 5), 21);
        due("of 0", x.first(10, 0, 0), -1);
        due("the other way round", x.first(1, 0, 3), -1);
        due("of what it was asked", x.first(2, 0, 0), 15);
        x.lose(0, 1 | 2);
        due("of 3, as it was lost", x.first(10, 0, 3), 31);
        LettersThatCross y = withWays();
        y.hold(0, 0, 1);
        y.write(0, 1, 0, 100, -1);
        y.write(1, 20, 0, 4, -1);
        y.write(0, 1, 5, 0, -1);
        due("told on that day, not so behind it", y.first(10, 0, 1), -1);
        due("so behind it", y.first(10, 0, 4), 10);
        y.hold(0, 1, 9);
        y.write(0, 1, 20, 10, -1);
        due("of 9", y.first(10, 1, 9), 25);
    }

    private static void isTrue() {
        LettersThatCross x = withWays();
        x.hold(0, 0, 2);
        x.write(0, 1, 0, 100, -1);
        x.write(1, 20, 3, 9, -1);
        x.write(0, 1, 9, 0, -1);
        x.write(0, 1, 3, 0, -1);
        due("it changed meanwhile", x.isTrue(0), 0);
        due("the asking one itself", x.isTrue(1), 1);
        due("behind the change", x.isTrue(2), 1);
        x.lose(1, 1);
        due("it didn't change", x.isTrue(0), 1);
        x.lose(0, 1 | 2);
        due("never comes", x.isTrue(0), -3);
        LettersThatCross y = withWays();
        y.write(0, 1, 0, 100, -1);
        y.write(1, 20, 5, 6, -1);
        due("it changes on the very day", y.isTrue(0), 0);
        y.write(1, 20, 5, 0, -1);
        due("and back on it", y.isTrue(0), 1);
        LettersThatCross w = withWays();
        w.write(1, 20, 1, 6, -1);
        w.write(0, 1, 5, 0, -1);
        due("changed by the first letter", w.isTrue(1), 0);
        LettersThatCross z = withWays();
        z.write(0, 1, 0, 0, -1);
        z.write(1, 20, 1, 6, -1);
        due("it changes a day later", z.isTrue(0), 1);
    }

    private static void archive() {
        LettersThatCross x = withWays();
        x.write(1, 1, 0, 3, -1);
        x.write(0, 21, 1, 100, -1);
        x.write(3, 1, 2, 9, -1);
        x.write(1, 2, 3, 4, -1);
        x.write(5, 1, 20, 0, 0);
        due("behind day 4", x.archive(1, 4, 0), 0);
        due("behind day 5", x.archive(1, 5, 0), 1);
        due("behind day 10", x.archive(1, 10, 0), 1 | 4);
        due("behind day 11", x.archive(1, 11, 0), 1 | 2 | 4);
        due("behind day 999", x.archive(1, 999, 0), 1 | 2 | 4 | 16);
        due("another hand's", x.archive(2, 999, 0), 8);
        due("none", x.archive(0, 999, 0), 0);
        due("done", x.archive(1, 11, 1), 1);
        due("another hand's done", x.archive(2, 11, 1), 8);
        due("done, taken back", x.archive(1, 25, 1), 0);
        due("none done", x.archive(0, 999, 1), 0);
    }

    private static void chains() {
        LettersThatCross x = withWays();
        x.write(0, 1, 0, 0, -1);
        x.write(2, 10, 7, 0, 0);
        x.write(5, 1, 13, 0, 1);
        x.write(2, 10, 20, 0, 2);
        x.write(2, 10, 20, 100, 0);
        x.write(0, 10, 21, 0, 0);
        x.write(2, 20, 21, 0, 0);
        x.write(2, 1, 21, 0, 0);
        int[][] want = {{4, 0}, {5, 1}, {12, 2}, {18, 3}, {25, 4}, {999, 4}};
        for (int[] w : want) {
            due("sure(0, " + w[0] + ")", x.sure(0, w[0]), w[1]);
            due("both(" + w[0] + ", 0)", x.both(w[0], 0), w[1]);
            due("both(" + w[0] + ", 1)", x.both(w[0], 1), w[1] == 0 ? -1 : 0);
        }
        due("of the second one", x.sure(1, 25), 3);
        due("of the third one", x.sure(2, 25), 2);
        due("of the last one", x.sure(3, 25), 1);
        due("of one that isn't named", x.sure(4, 25), 0);
        due("of one that isn't named", x.sure(4, 30), 1);
        due("of a letter that names but answers not", x.sure(5, 999), 1);
        x.lose(1, 1);
        due("a lost one breaks it", x.sure(0, 25), 1);
        due("the other answering one", x.sure(0, 30), 2);
        due("of the lost one", x.sure(1, 999), 0);
        due("the rest of it", x.both(25, 0), 2);
        due("the first one that has it", x.both(25, 1), 2);
        due("the first of two", x.both(30, 1), 0);
        LettersThatCross y = withWays();
        y.write(0, 1, 0, 100, -1);
        y.write(2, 10, 1, 0, 0);
        due("the answering one alone came", y.sure(0, 9), 0);
        due("it alone", y.both(9, 1), 1);
        due("both came", y.sure(0, 10), 2);
    }

    private static void crosses() {
        LettersThatCross x = withWays();
        x.write(0, 1, 0, 100, -1);
        x.write(0, 10, 9, 0, -1);
        x.write(0, 10, 10, 0, -1);
        x.write(0, 1, 12, 0, -1);
        x.write(0, 1, 14, 0, -1);
        x.write(0, 2, 14, 0, -1);
        x.write(0, 21, 14, 0, -1);
        due("0 and 1", x.crosses(0, 1), 1);
        due("1 and 0", x.crosses(1, 0), 1);
        due("0 and 2, on the very day", x.crosses(0, 2), 0);
        due("1 and 3", x.crosses(1, 3), 1);
        due("1 and 4, on the very day", x.crosses(1, 4), 0);
        due("3 and 4 go the same way", x.crosses(3, 4), 0);
        due("another hand", x.crosses(2, 5), 0);
        due("another hand", x.crosses(2, 6), 0);
        due("alike", x.crosses(0, 0), -5);
        due("crossed(0)", x.crossed(0), 2);
        due("crossed(1)", x.crossed(1), 1 | 8);
        due("crossed(2)", x.crossed(2), 8 | 16);
        due("crossed(5)", x.crossed(5), 0);
        x.lose(0, 2);
        due("one that never comes", x.crosses(0, 2), 1);
        due("one that never comes", x.crossed(0), 2 | 4);
        due("the other one", x.crossed(2), 1 | 8 | 16);
    }

    private static void timesAndNever() {
        LettersThatCross x = withWays();
        x.write(1, 1, 0, 3, -1);
        x.write(0, 1, 0, 3, -1);
        x.write(3, 1, 1, 3, -1);
        x.write(1, 1, 2, 3, -1);
        x.write(1, 2, 2, 3, -1);
        x.write(1, 21, 2, 3, -1);
        x.write(1, 1, 2, 13, -1);
        x.write(1, 1, 2, 4, -1);
        x.write(1, 1, 2, 103, -1);
        due("never ahead of all", x.never(0, 0), 1 | 4 | 8 | 16 | 32 | 64 | 128 | 256);
        due("once", x.times(0, 5), 1);
        due("once, as another one asks too", x.times(0, 6), 1);
        due("of the if, which wasn't done", x.times(2, 6), 1);
        due("of a letter that asks nothing", x.times(1, 6), 1);
        due("twice", x.times(0, 7), 2);
        due("three times, by another way too", x.times(0, 12), 3);
        due("another reader", x.times(4, 12), 1);
        due("another writer", x.times(5, 12), 1);
        due("another thing", x.times(6, 12), 1);
        due("more", x.times(7, 12), 1);
        due("never", x.never(6, 0), 16 | 32 | 64 | 128);
        due("above once", x.never(6, 1), 0);
        due("above once", x.never(7, 1), 1 | 4 | 8 | 256);
        due("none is never done", x.never(7, 0), 0);
        x.lose(4, 1);
        due("a lost one", x.never(999, 0), 16);
    }

    private static void whatever() {
        LettersThatCross x = withWays();
        x.write(1, 1, 0, 3, -1);
        x.write(1, 1, 1, 3, -1);
        x.write(5, 1, 2, 0, 0);
        due("least of none lost", x.whatever(0, 0, 0), 1);
        due("most of none lost", x.whatever(0, 0, 1), 1);
        due("just once", x.whatever(0, 0, 2), -1);
        due("least, if the first may be lost", x.whatever(0, 1, 0), 1);
        due("most, if the first may be lost", x.whatever(0, 1, 1), 1);
        due("always once", x.whatever(0, 1, 2), -1);
        due("least, if both may be lost", x.whatever(0, 2, 0), 0);
        due("most, if both may be lost", x.whatever(0, 2, 1), 1);
        due("with the second lost", x.whatever(0, 2, 2), 2);
        due("of the other one likewise", x.whatever(1, 2, 2), 2);
        due("least of three", x.whatever(0, 3, 0), 0);
        due("most of three", x.whatever(0, 3, 1), 2);
        due("with the second lost", x.whatever(0, 3, 2), 2);
        due("of one that asks nothing", x.whatever(2, 3, 1), 0);
        due("of one that asks nothing", x.whatever(2, 3, 2), 0);
        due("k 4 of three", x.whatever(0, 4, 0), -7);
        x.lose(1, 1);
        due("one that is lost already", x.whatever(0, 2, 1), 0);
        due("it stays lost in every set", x.whatever(0, 3, 1), 1);
        due("lost still", x.told(1, 8), -1);
        due("told as ahead of it", x.told(0, 8), 5);
        LettersThatCross y = withWays();
        for (int i = 0; i < 7; i++) {
            y.write(1, 1, i, 3, -1);
        }
        due("k 6", y.whatever(0, 6, 0), 1);
        due("k 6", y.whatever(0, 6, 1), 7);
        due("k 6", y.whatever(0, 6, 2), 0);
        due("k 7", y.whatever(0, 7, 0), -7);
        LettersThatCross z = withWays();
        z.write(4, 1, 0, 1, -1);
        z.write(1, 1, 0, 5, -1);
        z.write(5, 1, 5, 0, 1);
        due("lost by all ways, behind day 999", z.whatever(1, 3, 2), 0);
        due("with the undoing lost", z.whatever(1, 3, 1), 1);
    }

    private static void lacks() {
        LettersThatCross x = withWays();
        x.write(0, 1, 0, 100, -1);
        x.write(0, 1, 1, 0, -1);
        x.write(0, 2, 1, 100, -1);
        x.write(0, 10, 1, 100, -1);
        x.write(0, 1, 2, 100, -1);
        x.write(0, 1, 4, 0, -1);
        due("none came", x.lacks(1, 5), 0);
        due("the second came", x.lacks(1, 6), 1);
        due("the last came", x.lacks(1, 9), 1 | 16);
        due("the first came", x.lacks(1, 10), 16);
        due("all came", x.lacks(1, 12), 0);
        x.lose(0, 2);
        due("one that never comes", x.lacks(1, 999), 1);
        due("of others none", x.lacks(2, 9), 0);
        due("of others none", x.lacks(10, 9), 0);
        due("of none", x.lacks(21, 9), 0);
        int[] twos = {1, 2, 10, 12, 20, 21};
        LettersThatCross y = withWays();
        for (int i = 0; i < 12; i++) {
            y.write(0, twos[i % 6], 0, i < 6 ? 100 : 0, -1);
        }
        for (int i = 0; i < 6; i++) {
            due("lacks(" + twos[i] + ", 5)", y.lacks(twos[i], 5), 1 << i);
            due("lacks(" + twos[i] + ", 10)", y.lacks(twos[i], 10), 0);
        }
    }

    private static void forged() {
        LettersThatCross x = withWays();
        x.write(0, 1, 0, 100, -1);
        x.write(0, 10, 9, 0, 0);
        x.write(0, 10, 10, 0, 0);
        x.write(0, 20, 11, 0, 0);
        x.write(0, 1, 11, 0, 0);
        x.write(0, 2, 11, 0, 1);
        x.write(0, 2, 15, 0, 1);
        due("forged", x.forged(), 2 | 8 | 32);
        x.lose(0, 2);
        due("of one that never comes", x.forged(), 2 | 4 | 8 | 32);
        x.turn(1);
        due("late", x.forged(), 2 | 4 | 8 | 32 | 64);
    }

    private static void bargain() {
        LettersThatCross x = withWays();
        x.write(1, 1, 3, 100, -1);
        x.write(2, 10, 12, 0, 0);
        x.write(0, 10, 13, 0, 0);
        x.write(2, 10, 13, 100, 0);
        x.write(5, 10, 14, 0, 0);
        x.write(2, 20, 14, 0, 0);
        x.write(2, 12, 14, 0, 0);
        x.write(2, 10, 14, 0, -1);
        due("as it is written", x.bargain(0, 0), 3);
        due("as it comes", x.bargain(0, 1), 13);
        due("as the first answer comes", x.bargain(0, 2), 19);
        x.lose(4, 1);
        due("the other answer", x.bargain(0, 2), 23);
        x.lose(3, 2);
        due("none answers", x.bargain(0, 2), -1);
        x.lose(3, 0);
        x.lose(0, 2);
        due("never comes", x.bargain(0, 1), -1);
        due("never answered", x.bargain(0, 2), -1);
        due("written all the same", x.bargain(0, 0), 3);
        LettersThatCross y = withWays();
        y.write(0, 21, 0, 0, -1);
        y.write(2, 12, 5, 0, 0);
        due("answered by the very next, on the very day", y.bargain(0, 2), 10);
        due("rule 3", x.bargain(0, 3), -7);
        due("rule -1", x.bargain(0, -1), -7);
    }

    private static void obeys() {
        LettersThatCross x = withWays();
        x.write(0, 1, 7, 0, -1);
        due("on its day", x.obeys(0, 7), 1);
        due("ahead of it", x.obeys(0, 6), -7);
        due("at age 29", x.obeys(0, 36), 1);
        due("at age 30", x.obeys(0, 37), 0);
        due("on day 999", x.obeys(0, 999), 0);
        due("on day 1000", x.obeys(0, 1000), -7);
        Due.text(x, "late 2;write 0;keep season = 3 and long = 12 and day = 50 and age = 43 and had = 0 and wrote = 0;");
        Due.text(x, "late 2;write 0;keep 0 - 5;");
        x.write(4, 1, 7, 100, -1);
        x.force(1);
        due("of another season", x.obeys(1, 50), 0);
        x.turn(3);
        due("by all names", x.obeys(1, 50), 1);
        due("by way 0", x.obeys(0, 50), 0);
        due("on another day", x.obeys(1, 51), 0);
        x.force(2);
        due("below 0 is not 0", x.obeys(0, 999), 1);
    }

    private static void line() {
        LettersThatCross x = withWays();
        x.write(0, 1, 7, 100, -1);
        due("to age 29", x.line(0), 29);
        x.turn(1);
        due("late, to age 29", x.line(0), 29);
        x.turn(2);
        due("not on the first", x.line(0), -1);
        x.turn(0);
        x.lose(0, 2);
        due("never comes", x.line(0), -3);
        x.lose(0, 0);
        Due.text(x, "late 0;write 0;keep 1;");
        Due.text(x, "late 0;write 0;keep not day = 60;");
        Due.text(x, "late 0;write 0;keep day < 18;");
        Due.text(x, "late 0;write 0;keep long - 10 + (long = 10) * (18 < day);");
        x.force(1);
        due("200 days more", x.line(0), 210);
        x.force(2);
        due("as long as it isn't 0", x.line(0), 52);
        x.force(3);
        due("on the first alone", x.line(0), 10);
        x.force(4);
        due("not on the first", x.line(0), -1);
        LettersThatCross y = new LettersThatCross();
        y.way(90, 30, 0, 0);
        y.write(0, 1, 400, 0, -1);
        Due.text(y, "late 99;write 0;keep 1;");
        y.force(1);
        due("from the last day of all", y.line(0), 20 + 189 + 200);
    }

    private static void refusals() {
        LettersThatCross x = withWays();
        x.write(1, 1, 0, 3, -1);
        int[] noHands = {-1, 3};
        for (int h : noHands) {
            due("holdsThen", x.holdsThen(h, 0, 1000), -5);
            due("archive", x.archive(h, 1000, 2), -5);
        }
        int[] noThings = {-1, 4};
        for (int t : noThings) {
            due("holdsThen", x.holdsThen(0, t, 1000), -5);
            due("knew", x.knew(1, t, 1000, 2), -5);
            due("first", x.first(1, t, 10), -5);
        }
        int[] noTwos = {-1, -10, -12, 0, 11, 22, 3, 13, 30, 31, 33, 101, 102, 110, Integer.MIN_VALUE, Integer.MAX_VALUE};
        for (int two : noTwos) {
            due("knew", x.knew(two, 0, 1000, 2), -5);
            due("first", x.first(two, 0, 10), -5);
            due("lacks", x.lacks(two, 1000), -5);
        }
        int[] noDays = {-1, 1000};
        for (int d : noDays) {
            due("holdsThen", x.holdsThen(0, 0, d), -7);
            due("knew", x.knew(1, 0, d, 0), -7);
            due("archive", x.archive(0, d, 0), -7);
            due("sure", x.sure(0, d), -7);
            due("both", x.both(d, 0), -2);
            due("times", x.times(0, d), -7);
            due("never", x.never(d, 0), -2);
            due("lacks", x.lacks(1, d), -7);
        }
        int[] noWhats = {-1, 2};
        for (int what : noWhats) {
            due("knew", x.knew(1, 0, 0, what), -7);
            due("archive", x.archive(0, 0, what), -7);
            due("both", x.both(0, what), -2);
            due("never", x.never(0, what), -2);
        }
        due("whatever", x.whatever(0, 0, -1), -7);
        due("whatever", x.whatever(0, 0, 3), -7);
        due("whatever", x.whatever(0, -1, 0), -7);
        due("first", x.first(1, 0, 10), -7);
        due("first", x.first(1, 0, -1), -7);
        int[] noLetters = {-1, 1, 16};
        for (int l : noLetters) {
            due("isTrue", x.isTrue(l), -5);
            due("sure", x.sure(l, 1000), -5);
            due("crosses", x.crosses(l, 0), -5);
            due("crosses", x.crosses(0, l), -5);
            due("crossed", x.crossed(l), -5);
            due("times", x.times(l, 1000), -5);
            due("whatever", x.whatever(l, 7, 3), -5);
            due("bargain", x.bargain(l, 3), -5);
            due("obeys", x.obeys(l, 1000), -5);
            due("line", x.line(l), -5);
        }
        due("holdsThen on day 999", x.holdsThen(1, 0, 999), 3);
    }
}
