/** Promises 9 to 11: the tape, texts and their fault, the law. */
public final class LawTest {
    private static final Due DUE = new Due("LawTest");

    public static void main(String[] args) {
        feed();
        textNumbers();
        faults();
        atTheBrim();
        fivesOpen();
        values();
        force();
        DUE.close();
    }

    private static void due(String call, long got, long want) {
        DUE.due(call, got, want);
    }

    private static void feed() {
        LettersThatCross x = new LettersThatCross();
        due("feed of none", x.feed(1L, 0), -2);
        due("feed of nine", x.feed(1L, 9), -2);
        due("feed of less than none", x.feed(1L, -1), -2);
        due("the lowest bytes alone", x.feed(0x7F7F6C6174L, 3), 3);
        due("the next behind them", x.feed(0x65L, 1), 4);
        due("text too early over", x.text(), -104);
        due("the tape is empty", x.count(5), 0);
        for (int i = 1; i <= 19; i++) {
            due("feed of eight", x.feed(0x2020202020202020L, 8), 8 * i);
        }
        due("over the brim", x.feed(0x2020202020202020L, 8), 160);
        due("full", x.feed(0x20L, 1), -4);
        due("bad ahead of full", x.feed(0x20L, 9), -2);
        due("still 160", x.count(5), 160);
        due("a text of blanks", x.text(), -260);
        for (int i = 1; i <= 19; i++) {
            x.feed(0L, 8);
        }
        x.feed(0L, 3);
        due("six would be too many", x.feed(0L, 6), -4);
        due("nothing of them came", x.count(5), 155);
        due("five are not", x.feed(0L, 5), 160);
        due("the highest first", Due.text(new LettersThatCross(), "late 12;write 0;keep 0;"), 1);
    }

    private static void textNumbers() {
        LettersThatCross x = new LettersThatCross();
        due("an empty tape", x.text(), -100);
        for (int t = 1; t < 6; t++) {
            due("a text", Due.text(x, "late 0;write 0;keep 0;"), t);
            due("the tape is empty", x.count(5), 0);
            due("texts", x.count(3), t + 1);
        }
        due("a seventh text", Due.text(x, "late 0;write 0;keep 0;"), -4);
        due("the tape stays", x.count(5), 22);
        due("full ahead of the fault", Due.text(x, "?"), -4);
        due("the tape stays", x.count(5), 23);
        due("texts", x.count(3), 6);
    }

    private static void faults() {
        fault("", 0);
        fault("   ", 3);
        fault("lat 0;write 0;keep 0;", 0);
        fault("later 0;write 0;keep 0;", 0);
        fault("gate 0;write 0;keep 0;", 0);
        fault("late 0;white 0;keep 0;", 7);
        fault("late may;write 0;keep 0;", 5);
        fault("late hag;write 0;keep 0;", 5);
        fault("late song;write 0;keep 0;", 5);
        fault("write 0;late 0;keep 0;", 0);
        fault("late;write 0;keep 0;", 4);
        fault("late 0 write 0;keep 0;", 7);
        fault("late 0;keep 0;", 7);
        fault("late 0;write 0;write 0;", 15);
        fault("late 0;write 0;keep 0", 21);
        fault("late 0;write 0;keep 0 \n", 23);
        fault("late 0;write 0;keep 0;;", 22);
        fault("late 0;write 0;keep 0; late", 23);
        fault("late 0;write 0;keep 0;?", 22);
        fault("late 12345;write 0;keep 0;", 5);
        fault("late 00000;write 0;keep 0;", 5);
        fault("late 1 + 99999;write 0;keep 0;", 9);
        fault("late days;write 0;keep 0;", 5);
        fault("late da;write 0;keep 0;", 5);
        fault("late 1 days;write 0;keep 0;", 7);
        fault("late late;write 0;keep 0;", 5);
        fault("late 1 2;write 0;keep 0;", 7);
        fault("late 1day;write 0;keep 0;", 6);
        fault("late Day;write 0;keep 0;", 5);
        fault("late 1 > 2;write 0;keep 0;", 7);
        fault("late \t1;write 0;keep 0;", 5);
        fault("late 1\u00e9;write 0;keep 0;", 6);
        fault("late 1\u0000;write 0;keep 0;", 6);
        fault("late 1 < 2 < 3;write 0;keep 0;", 11);
        fault("late 1 = 2 < 3;write 0;keep 0;", 11);
        fault("late 1 <= 2;write 0;keep 0;", 8);
        fault("late 1 < not 2;write 0;keep 0;", 9);
        fault("late 1 + not 2;write 0;keep 0;", 9);
        fault("late - not 2;write 0;keep 0;", 7);
        fault("late 1 +;write 0;keep 0;", 8);
        fault("late + 1;write 0;keep 0;", 5);
        fault("late 1 * ;write 0;keep 0;", 9);
        fault("late 1 or;write 0;keep 0;", 9);
        fault("late 1 and or 2;write 0;keep 0;", 11);
        fault("late not;write 0;keep 0;", 8);
        fault("late (1;write 0;keep 0;", 7);
        fault("late 1);write 0;keep 0;", 6);
        fault("late ();write 0;keep 0;", 6);
        fault("late (1", 7);
        fault("late (1 2);write 0;keep 0;", 8);
        fault("late 0;write 0;keep 1 +", 23);
        good("late 0;write 0;keep 0;");
        good(" \nlate 0 ; write\n0;keep 0; \n ");
        good("late 9999;write 0000;keep 0;");
        good("late 1or 2and 3;write 1<2;keep 3=4;");
        good("late 1--1;write - - 1;keep not not 1 < 2;");
        good("late(season);write(long+had)*wrote;keep(age or day);");
        good("late 1<2 or 3=4 and not 5<6;write 1;keep (1<2)<3;");
    }

    /** Texts of 160 bytes, and such as stand where a longer one stood. */
    private static void atTheBrim() {
        String early = " ".repeat(138) + "late 0;write 0;keep ";
        fault(early + "12", 160);
        fault(early.substring(1) + "day", 160);
        fault(early.substring(1) + "dar", 157);
        good(early + "1;");
        LettersThatCross x = new LettersThatCross();
        Due.text(x, "late 0;write 0;keep 123456789;");
        due("cut short in a number", Due.text(x, "late 0;write 0;keep 1234"), -124);
        Due.text(x, "late 0;write 0;keep daydayday;");
        due("cut short in a word", Due.text(x, "late 0;write 0;keep day"), -123);
        due("cut short in a sign", Due.text(x, "late 0;write 0;keep 1"), -121);
    }

    private static void fivesOpen() {
        good("late (((((1)))));write 0;keep 0;");
        fault("late ((((((1))))));write 0;keep 0;", 10);
        good("late not not not not not 1;write 0;keep 0;");
        fault("late not not not not not not 1;write 0;keep 0;", 25);
        good("late - - - - - 1;write 0;keep 0;");
        fault("late - - - - - - 1;write 0;keep 0;", 15);
        fault("late not(-(-(1)));write 0;keep 0;", 12);
        good("late not(-(-1));write 0;keep 0;");
        good("late not(-(-day));write -(((-1)));keep((((1))));");
        fault("late not not ( - ( - 1 ) ) ;write 0;keep 0;", 19);
        fault("late not not ( - ( ( 1 ) ) ) ;write 0;keep 0;", 19);
        fault("late not not ( - ( not 1 ) ) ;write 0;keep 0;", 19);
        good("late not not ( - ( 1 - 1 ) ) ;write 0;keep 0;");
        good("late (((((1))))) + (((((2)))));write 0;keep 0;");
        good("late -----1 - -----2;write 0;keep 0;");
        good("late not not not not not 1 and not not not not not 2;write 0;keep 0;");
        good("late ((((-1 - -1))));write 0;keep 0;");
        fault("late ((((-(1)))));write 0;keep 0;", 10);
        good("late ((((not 1 and not 2))));write 0;keep 0;");
        fault("late ((((not 1 + (2)))));write 0;keep 0;", 17);
        good("late not(1)+(((1)))<((((1))));write 0;keep 0;");
        fault("late not(1)+(((1)))<(((((1)))));write 0;keep 0;", 24);
    }

    private static void fault(String text, int place) {
        LettersThatCross x = new LettersThatCross();
        due("fault of '" + text + "'", Due.text(x, text), -100 - place);
        due("the tape is empty", x.count(5), 0);
        due("texts", x.count(3), 1);
    }

    private static void good(String text) {
        due("number of '" + text + "'", Due.text(new LettersThatCross(), text), 1);
    }

    private static void values() {
        value("0", 0);
        value("9999", 1);
        value("1 - 2 - 3 + 5", 1);
        value("2 + 3 * 4 - 14", 0);
        value("(2 + 3) * 4 - 20", 0);
        value("- 2 * 3 + 6", 0);
        value("2 * - 3 = - 6", 1);
        value("- - 5 = 5", 1);
        value("1 < 2", 1);
        value("2 < 1", 0);
        value("2 < 2", 0);
        value("2 = 2", 1);
        value("2 = 1", 0);
        value("not 0", 1);
        value("not 7", 0);
        value("not not 7", 1);
        value("(not not 7) = 1", 1);
        value("not 2 < 1", 1);
        value("not 1 = 0 and 0", 0);
        value("(7 or 0) = 1", 1);
        value("(0 or 0) = 0", 1);
        value("(7 and 5) = 1", 1);
        value("(7 and 0) = 0", 1);
        value("1 or 0 and 0", 1);
        value("(1 or 0) and 0", 0);
        value("1 + 1 < 1 + 2", 1);
        value("1 = 0 + 1", 1);
        value("(1 < 2) + (3 < 4) = 2", 1);
        value("(1 < 2) * 5 = 5", 1);
        value("(2 = 2) * 5 = 5", 1);
        value("- 5", 1);
        value("- 1 < 0", 1);
        value("9999 * 9999 * 9999 < 0", 1);
        value("9999 * 9999 * 22 < 0", 1);
        value("9999 * 9999 * 43 < 0", 0);
        value("8192*8192*64 = 0", 1);
        value("8192*8192*32 < 0", 1);
        value("8192*8192*32 - 1 < 0", 0);
        value("- (8192*8192*32) = 8192*8192*32", 1);
        value("8192*8192*32 < 1", 1);
    }

    /** What keep is by its words, as obeys() tells it. */
    private static void value(String words, int want) {
        LettersThatCross x = new LettersThatCross();
        x.way(3, 1, 0, 0);
        x.write(0, 1, 0, 0, -1);
        String text = "late 0;write 0;keep " + words + ";";
        due("number of '" + text + "'", Due.text(x, text), 1);
        x.force(1);
        due("keep " + words, x.obeys(0, 0), want);
    }

    private static void force() {
        LettersThatCross x = new LettersThatCross();
        x.way(3, 1, 0, 0);
        due("force(1) of one", x.force(1), -2);
        due("force(-1)", x.force(-1), -2);
        due("force(0)", x.force(0), 0);
        Due.text(x, "late 1;write 0;keep 0;");
        Due.text(x, "late 2;write 0;keep 0;");
        due("force(2)", x.force(2), 0);
        due("by text 2", x.arrive(0, 0), 5);
        due("force(1)", x.force(1), 2);
        due("by text 1", x.arrive(0, 0), 4);
        due("a way that came later, too", x.way(8, 1, 0, 0), 1);
        due("by text 1", x.arrive(1, 0), 9);
        due("force(3)", x.force(3), -2);
        due("law", x.count(4), 1);
        due("force(0)", x.force(0), 1);
        due("by text 0", x.arrive(0, 0), 3);
    }
}
