/** Promises 9 to 11 at their bounds, and those of a TEXT: the tape, tokens, faults, what is open, values, the law. */
public final class LawEdgesTest {
    private static final Edges EDGES = new Edges("LawEdgesTest");
    private static final String GOOD = "late 0;write 0;keep 0;";

    public static void main(String[] args) {
        feed();
        feedAtTheBrim();
        feedOfLongs();
        text();
        textAtTheBrim();
        numbers();
        words();
        bytesThatBeginATerm();
        bytesBehindATerm();
        endsTooEarly();
        tokensThatCannotStand();
        fiveOfAKind();
        fiveOfMixedKinds();
        closedOnes();
        wraps();
        truths();
        force();
        EDGES.close();
    }

    private static void due(String calls, long want) {
        EDGES.due(calls, want);
    }

    private static long[] at(long number, long answer) {
        return Edges.at(number, answer);
    }

    /** The FAULT's place in a text; -1: it is a TEXT. */
    private static void fault(String text, int place) {
        EDGES.read(text, place < 0 ? 1 : -100 - place);
    }

    private static void feed() {
        EDGES.number("", "feed 0 #", at(1, 1), at(8, 8), -2);
        EDGES.outside(States.BRIM, "feed 0 #", 1, 8, -2);
        EDGES.outside(States.FULL, "feed -1 #", 1, 8, -2);
        for (int n = 1; n <= 8; n++) {
            due("feed 0 " + n, n);
            due("feed 0 8 | feed 0 " + n, 8 + n);
            due("feed 0 8 | feed 0 " + n + " | count 5", 8 + n);
        }
    }

    private static void feedAtTheBrim() {
        String tape152 = "feed 0 8 | ".repeat(19);
        due(tape152 + "count 5", 152);
        due(tape152 + "feed 0 7", 159);
        for (int n = 1; n <= 8; n++) {
            due(tape152 + (n == 8 ? "" : "feed 0 " + (8 - n)) + " | feed 0 " + n, 160);
            EDGES.refused(tape152 + "feed 0 " + (9 - n), "feed 0 " + n, -4);
            EDGES.refused(States.BRIM, "feed 0 " + n, -4);
        }
        due(States.BRIM + " | text | feed 0 8", 8);
    }

    /** The n lowest bytes, the highest first, whatever stands above them. */
    private static void feedOfLongs() {
        due("feed " + Long.MIN_VALUE + " 8 | text", -100);
        due("feed " + Long.MAX_VALUE + " 8 | text", -100);
        due("feed " + Long.MIN_VALUE + " 1 | text", -100);
        due("feed " + Long.MAX_VALUE + " 1 | text", -100);
        due("feed -1 8 | text", -100);
        due("feed " + 0x8020202020202020L + " 8 | text", -100);
        due("feed " + 0x8020202020202020L + " 7 | text", -107);
        due("feed " + 0x7F20202020202020L + " 8 | text", -100);
        due("feed " + 0x7F20202020202020L + " 7 | text", -107);
        due("feed " + 0x20202020202020FFL + " 8 | text", -107);
        due("feed " + 0x20202020202020FFL + " 1 | text", -100);
        due("feed " + 0x2020202020202080L + " 2 | text", -101);
        due("feed " + 0xFFFFFFFFFFFFFF20L + " 1 | text", -101);
        due("feed " + 0x1FFFFFFFF0AL + " 1 | text", -101);
        due("feed " + 0x6C617465L + " 4 | text", -104);
        due("feed " + 0x6574616CL + " 4 | text", -100);
        for (int n = 1; n <= 8; n++) {
            for (long above : new long[] {0L, -1L, 0x7F7F7F7F7F7F7F7FL}) {
                StringBuilder calls = new StringBuilder();
                for (int from = 0; from < GOOD.length(); from += n) {
                    int now = Math.min(n, GOOD.length() - from);
                    long bytes = above;
                    for (int i = from; i < from + now; i++) {
                        bytes = bytes << 8 | GOOD.charAt(i);
                    }
                    calls.append("feed ").append(bytes).append(' ').append(now).append(" | ");
                }
                due(calls + "text", 1);
            }
        }
    }

    private static void text() {
        due("text", -100);
        due("feed 32 1 | text", -101);
        due("read ?| text", -100);
        due("read " + GOOD + "| text", -100);
        due("read ?| read " + GOOD, 1);
        due("read " + GOOD + "| read ?| read " + GOOD, 2);
        String[] four = States.SIX_TEXTS.split(" \\| read late 5");
        due(four[0], 4);
        due(four[0] + " | read " + GOOD, 5);
        due(four[0] + " | read ?", -100);
        EDGES.refused(States.SIX_TEXTS, "text", -4);
        EDGES.refused(States.SIX_TEXTS + " | tape " + GOOD, "text", -4);
        EDGES.refused(States.SIX_TEXTS + " | tape late ?", "text", -4);
        EDGES.refused(States.FULL, "text", -4);
        due(States.SIX_TEXTS + " | read late ?| count 5", 6);
        due(States.SIX_TEXTS + " | count 3", 6);
    }

    private static void textAtTheBrim() {
        String blanks = " ".repeat(160 - GOOD.length());
        fault(blanks + GOOD, -1);
        fault(blanks + "late 0;write 0;keep 0?", 159);
        fault(blanks + "late 0;write 0;keep 0 ", 160);
        fault(blanks + "late 0;write 0;keep 12", 160);
        fault(blanks + "late 0;write 0;keepers", 153);
        fault(" ".repeat(160), 160);
        fault(" ".repeat(159) + "?", 159);
        fault("\n".repeat(160), 160);
        fault(" ".repeat(156) + "late", 160);
        fault("l".repeat(160), 0);
        fault("late " + "1".repeat(155), 5);
        fault("late " + "+".repeat(155), 5);
        fault("late " + "1+".repeat(77) + "1", 160);
        fault("late " + "1-".repeat(69) + "1;write 0;keep 0;", -1);
        fault("late " + "1-".repeat(69) + "1;write 0;keep 0 ", 160);
        fault("late (" + "1=1)+(".repeat(22) + "1);write 0;keep 0;", -1);
    }

    private static void numbers() {
        String[] good = {"0", "9", "10", "999", "1000", "9999", "0000", "0009"};
        for (String number : good) {
            fault("late " + number + ";write 0;keep 0;", -1);
            fault("late 0;write 0;keep 1 < " + number + ";", -1);
        }
        String[] tooLong = {"10000", "99999", "00000", "00001", "12345678901234567890", "4294967296"};
        for (String number : tooLong) {
            fault("late " + number + ";write 0;keep 0;", 5);
            fault("late 0;write " + number + ";keep 0;", 13);
            fault("late 0;write 0;keep 1 < " + number + ";", 24);
            fault("late " + number, 5);
            fault("late 1 " + number, 7);
        }
        fault("12345 0;write 0;keep 0;", 0);
        fault("late 0;12345 0;keep 0;", 7);
        fault("late 0;write 0;12345 0;", 15);
        fault("late 0 12345;write 0;keep 0;", 7);
        fault("late 0;write 0;keep 0;12345", 22);
        fault("late 1234", 9);
        fault("late 1234 5;write 0;keep 0;", 10);
        fault("late 1234day;write 0;keep 0;", 9);
        due("way 1 1 0 0 | read late 0098;write 0;keep 0;| force 1 | arrive 0 0", 99);
        due("way 1 1 0 0 | read late 9999-9950;write 0;keep 0;| force 1 | arrive 0 0", 50);
    }

    private static void words() {
        String[] names = {"season", "long", "had", "wrote", "age", "day"};
        for (String name : names) {
            fault("late " + name + ";write 0;keep 0;", -1);
            fault("late 0;write " + name + ";keep 0;", -1);
            fault("late 0;write 0;keep " + name + ";", -1);
            fault("late " + name + "s;write 0;keep 0;", 5);
            fault("late " + name.substring(1) + ";write 0;keep 0;", 5);
            fault("late " + name.substring(0, name.length() - 1) + ";write 0;keep 0;", 5);
            fault("late " + name.substring(0, 1).toUpperCase() + name.substring(1) + ";write 0;keep 0;", 5);
            fault("late " + name + name + ";write 0;keep 0;", 5);
            fault("late x" + name.substring(1) + ";write 0;keep 0;", 5);
            fault("late " + name.substring(0, name.length() - 1) + "x;write 0;keep 0;", 5);
            fault(name + " 0;write 0;keep 0;", 0);
        }
        String[] keys = {"late", "write", "keep", "or", "and"};
        for (String key : keys) {
            fault("late " + key + ";write 0;keep 0;", 5);
            fault("late 1 + " + key + ";write 0;keep 0;", 9);
        }
        String[] unlike = {"gate", "white", "weep", "xr", "end", "got", "lat", "lates", "writ", "writes", "kee", "keeps", "o", "ors",
            "an", "ands", "no", "nots", "x", "a", "z"};
        for (String word : unlike) {
            fault("late 1 " + word + " 1;write 0;keep 0;", 7);
            fault("late " + word + " 1;write 0;keep 0;", 5);
            fault(word + " 0;write 0;keep 0;", 0);
            fault("late 0;" + word + " 0;keep 0;", 7);
            fault("late 0;write 0;" + word + " 0;", 15);
        }
        fault("lateday;write 0;keep 0;", 0);
        fault("late 1or1;write 0;keep 0;", -1);
        fault("late 1ord;write 0;keep 0;", 6);
        fault("late notday;write 0;keep 0;", 5);
        fault("late not(day);write 0;keep 0;", -1);
    }

    /** Behind late: of all bytes 0 .. 255 these can stand there; a single letter is neither KEY nor NAME. */
    private static void bytesThatBeginATerm() {
        for (char sign = 0; sign < 256; sign++) {
            boolean stands = "0123456789(- \n".indexOf(sign) >= 0;
            EDGES.read("late " + sign, stands ? -106 : -105);
        }
    }

    /** Behind a NUMBER. */
    private static void bytesBehindATerm() {
        for (char sign = 0; sign < 256; sign++) {
            boolean joins = "+-*<=0123456789".indexOf(sign) >= 0;
            boolean stands = "; \n".indexOf(sign) >= 0;
            EDGES.read("late 0" + sign + "0", joins ? -108 : stands ? -107 : -106);
            EDGES.read("late (0" + sign, joins || " \n)".indexOf(sign) >= 0 ? -108 : -107);
            EDGES.read(GOOD + sign, " \n".indexOf(sign) >= 0 ? 1 : -122);
        }
    }

    private static void endsTooEarly() {
        fault("", 0);
        for (int n = 1; n < GOOD.length(); n++) {
            boolean cutsAWord = n < 4 || n > 7 && n < 12 || n > 15 && n < 19;
            int place = n < 4 ? 0 : n < 12 ? 7 : 15;
            fault(GOOD.substring(0, n), cutsAWord ? place : n);
        }
        fault("late 0;write 0;keep 0;", -1);
        String[] early = {"late -", "late (", "late not", "late 1 +", "late 1 <", "late 1 or", "late 1 and", "late 1 *", "late (1 )",
            "late 0 \n ", "late 0; \n ", "late 0;write 0;keep 0 \n "};
        for (String text : early) {
            fault(text, text.length());
        }
        fault("late 0;write 0;keep 0; \n ", -1);
    }

    private static void tokensThatCannotStand() {
        String[] faults = {"^", "late^", "late ^;", "late ^)", "late (^)", "late 0^)", "late (0^;", "late 0 ^0", "late 0^(", "late 0^not",
            "late 0 < 0^ < 0", "late 0 = 0^ = 0", "late 0 < 0^ = 0", "late 0 <^ not 0", "late 0 +^ not 0", "late 0 *^ not 0",
            "late -^ not 0", "late ^+0", "late ^*0", "late ^<0", "late ^=0", "late ^or 0", "late 0 or^ or 0", "late 0 and^ or 0",
            "late 0 +^ + 0", "late 0 <^= 0", "late 0^ late", "late 0;^ ;", "late 0;^ late 0;", "late 0;^ keep 0;", "late 0;write^;",
            "late 0;write 0;^ write 0;", "late 0;write 0;^ 0;", "late 0;write 0;keep^;", "late 0;write 0;keep 0;^ ;",
            "late 0;write 0;keep 0;^ late 0;", "late 0;write 0;keep 0;^ 0", "late 0;write 0;keep 0;^ ?", "late 0;write 0;keep 0;^ 12345",
            "^write 0;late 0;keep 0;", "^0;write 0;keep 0;", "late (0 or 0^", "late ((0)^;", "late (0)^);"};
        for (String each : faults) {
            int place = each.indexOf('^');
            String text = each.replace("^", "");
            while (place < text.length() && text.charAt(place) == ' ') {
                place++;
            }
            fault(text, place);
        }
    }

    private static void fiveOfAKind() {
        String[] opens = {"(", "-", "not "};
        for (String open : opens) {
            for (int n = 0; n <= 8; n++) {
                String closes = open.equals("(") ? ")".repeat(n) : "";
                int place = n <= 5 ? -1 : 5 + 5 * open.length();
                fault("late " + open.repeat(n) + "1" + closes + ";write 0;keep 0;", place);
                fault("late 0;write 0;keep " + open.repeat(n) + "day" + closes + ";", place < 0 ? -1 : 15 + place);
            }
        }
        fault("late (((((", 10);
        fault("late ((((((", 10);
        fault("late -----", 10);
        fault("late ------", 10);
        fault("late " + "not ".repeat(5), 25);
        fault("late " + "not ".repeat(6), 25);
        fault("late (((((not 1", 10);
        fault("late (((((- 1", 10);
        fault("late -----(1", 10);
    }

    private static void fiveOfMixedKinds() {
        String good = ";write 0;keep 0;";
        fault("late not(-(-1))" + good, -1);
        fault("late not(-(-(1)))" + good, 12);
        fault("late not not(-(1))" + good, -1);
        fault("late not not(-(-1))" + good, 15);
        fault("late not not(-(not 1))" + good, 15);
        fault("late not not not(-1)" + good, -1);
        fault("late not not not(--1)" + good, 18);
        fault("late not not not(not 1)" + good, -1);
        fault("late not not not((1))" + good, -1);
        fault("late not not not(((1)))" + good, 18);
        fault("late not not not((not 1))" + good, 18);
    }

    /** A ( is open till its ) , not and - till what they belong to ends. */
    private static void closedOnes() {
        String good = ";write 0;keep 0;";
        fault("late (((((1)))))+(((((1)))))" + good, -1);
        fault("late (((((1)))))+((((((1))))))" + good, 22);
        fault("late (((((1))))+(1))" + good, -1);
        fault("late (((((1))))+((1)))" + good, -1);
        fault("late ((((1)+1)+(1)))" + good, -1);
        fault("late (((((1)+(1)))))" + good, -1);
        fault("late (((((1)+((1))))))" + good, 14);
        fault("late (((((1)+1))))+(1)" + good, -1);
        fault("late -----1+-----1" + good, -1);
        fault("late -----1*-----1" + good, -1);
        fault("late -----1<-----1" + good, -1);
        fault("late -----1------1" + good, -1);
        fault("late -----1-------1" + good, 17);
        fault("late ----(1)+----(1)" + good, -1);
        fault("late ----(1+1)*(1)" + good, -1);
        fault("late ----(1+-1)" + good, 12);
        fault("late not not not not not 1 and not not not not not 1" + good, -1);
        fault("late not not not not not 1 or not not not not not 1" + good, -1);
        fault("late not not not not not 1 or (((((1)))))" + good, -1);
        fault("late not not not not not 1 < (1)" + good, 29);
        fault("late not not not not not 1 < -1" + good, 29);
        fault("late not not not not not 1 + (1)" + good, 29);
        fault("late not not not not not 1 * -1" + good, 29);
        fault("late not not not not 1 < (1)" + good, -1);
        fault("late not not not not 1 + (1) * (2) = -3" + good, -1);
        fault("late not not not not 1 = ((1))" + good, 26);
        due("read late ((((((1| read late (((((1)))))" + good, 1);
        due("read late " + "not ".repeat(6) + "| read late " + "not ".repeat(5) + "1" + good, 1);
    }

    /** Whether keep isn't 0, by these words, at age 3 on day 3. */
    private static void keeps(String words, int want) {
        due("way 5 1 0 0 | write 0 1 0 0 -1 | read late 0;write 0;keep " + words + ";| force 1 | obeys 0 3", want);
    }

    /** 8192 * 8192 * 32 is 2 to the power 31. */
    private static void wraps() {
        keeps("8192*8192*64", 0);
        keeps("8192*8192*64+1", 1);
        keeps("8192*8192*32 < 0", 1);
        keeps("8192*8192*32 = -(8192*8192*32)", 1);
        keeps("0 < 8192*8192*32 - 1", 1);
        keeps("8192*8192*32 - 1 + 1 < 0", 1);
        keeps("8192*8192*32 + 8192*8192*32", 0);
        keeps("9999*9999 = 9998*5000*2 + 1", 1);
        keeps("9999*9999*9999 = -(9999*9999*10 + 9999*2755 + 2714)", 1);
        keeps("9999*9999*9999*9999 = 9999*9999*10 + 9999*8964 + 955", 1);
        keeps("8192*8192*63 + 8192*8192 = 0", 1);
        keeps("(8192*8192*32) * (8192*8192*32)", 0);
        keeps("(8192*8192*32) * -1 < 0", 1);
        keeps("(8192*8192*32) - (0-1) < 0", 1);
        keeps("(8192*8192*32 - 1) * 2 = -2", 1);
    }

    private static void truths() {
        String[] ones = {"1", "2", "9999", "-1", "-9999", "8192*8192*32", "8192*8192*32-1"};
        for (String one : ones) {
            keeps(one, 1);
            keeps("not (" + one + ")", 0);
            keeps("(" + one + " or 0) = 1", 1);
            keeps("(" + one + " and " + one + ") = 1", 1);
            keeps("(" + one + " and 0) = 0", 1);
        }
        keeps("1 and 0", 0);
        keeps("0 and 1", 0);
        keeps("0 and 0", 0);
        keeps("1 and 1", 1);
        keeps("1 or 0", 1);
        keeps("0 or 1", 1);
        keeps("0 or 0", 0);
        keeps("1 or 1 and 0", 1);
        keeps("0 and 0 or 1", 1);
        keeps("not 0 and 0", 0);
        keeps("not 1 or 1", 1);
        keeps("not 1 = 0", 1);
        keeps("not (1 or 0)", 0);
        keeps("0", 0);
        keeps("-0", 0);
        keeps("0000", 0);
        keeps("8192*8192*64", 0);
        keeps("(not 0) = 1", 1);
        keeps("(0 or 0) = 0", 1);
        keeps("(1 < 1) = 0", 1);
        keeps("(0 < 1) = 1", 1);
        keeps("(1 < 0) = 0", 1);
        keeps("(1 = 1) = 1", 1);
        keeps("(1 = 0) = 0", 1);
        keeps("-1 < 0", 1);
        keeps("8192*8192*32 < 8192*8192*32-1", 1);
        keeps("8192*8192*32-1 < 8192*8192*32", 0);
    }

    private static void force() {
        EDGES.number("", "force #", at(0, 0), at(0, 0), -2);
        EDGES.number("read " + GOOD, "force #", at(0, 0), at(1, 0), -2);
        EDGES.number(States.SIX_TEXTS, "force #", at(0, 0), at(5, 0), -2);
        EDGES.number(States.SIX_TEXTS + " | force 5", "force #", at(0, 5), at(5, 5), -2);
        EDGES.outside(States.FULL, "force #", 0, 5, -2);
        EDGES.outside(States.BACK, "force #", 0, 1, -2);
        EDGES.refused("read ?", "force 1", -2);
        due(States.SIX_TEXTS + " | force 5 | force 6 | count 4", 5);
        due(States.BACK + " | force 0", 1);
    }
}
