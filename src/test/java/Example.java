/** Some calls, and what they answer; README.md shows this file and what it prints. */
public final class Example {
    public static void main(String[] args) {
        LettersThatCross x = new LettersThatCross();
        int post = x.way(5, 1, 20, 3);               // takes 5 days, goes each day, loses 20 of 100, costs 3
        int ship = x.way(20, 7, 0, 1);               // takes 20 days, goes each 7th day, loses none, costs 1
        x.hold(1, 0, 2);                             // hand 1 holds 2 of thing 0 at first

        // Kind 1 (asking), 01: from hand 0 to hand 1, on day 0, by the post, of thing 0, more 7; it names none.
        int ask = x.write(1, 1, 0, 100 * post + 7, -1);
        // Kind 2 (answering), 10: from hand 1 to hand 0, on day 6; it names the asking.
        int answer = x.write(2, 10, 6, 100 * post, ask);
        // Kind 5 (undoing), from hand 0 to hand 1, on day 8, by the ship; it names the asking, too.
        int undo = x.write(5, 1, 8, 100 * ship, ask);

        print("the asking comes on day", x.told(ask, 8));
        print("hand 1 holds behind that", x.holdsThen(1, 0, 5));
        print("hand 0 knows behind day 11 that it held", x.knew(1, 0, 11, 0));
        print("the chain of the asking is then", x.sure(ask, 11));
        print("letters that cross the undoing one, as bits", x.crossed(undo));
        print("the undoing one comes on day", x.told(undo, 8));
        print("hand 1 holds behind that", x.holdsThen(1, 0, 34));

        x.lose(answer, 1 << post);
        print("the answer, lost by the post, comes on day", x.told(answer, 8));
        print("the chain of the asking is then", x.sure(ask, 11));

        print("a text is text", read(x, "late season * 2 ; write 3 - wrote ; keep age < 9 ;"));
        print("one with a fault at place 7 answers", read(x, "late 1 late"));
        x.turn(4);
        x.force(1);
        print("by text 1, in season 4, the asking comes on day", x.told(ask, 8));
        print("letters of a ring of 100 days by the post", x.ring(post, 100, 0));

        print("a way that there isn't answers", x.arrive(2, 0));
        print("a letter of a day ahead of the last one's answers", x.write(0, 1, 7, 0, -1));
        print("a letter that there isn't answers", x.odds(3, 0));
    }

    /** Feeds a text, eight bytes a call at most, the first of them highest, and reads it. */
    private static int read(LettersThatCross x, String text) {
        for (int from = 0; from < text.length(); from += 8) {
            int n = Math.min(8, text.length() - from);
            long bytes = 0;
            for (int i = from; i < from + n; i++) {
                bytes = bytes << 8 | text.charAt(i);
            }
            x.feed(bytes, n);
        }
        return x.text();
    }

    private static void print(String what, long answer) {
        System.out.println(what + ": " + answer);
    }
}
