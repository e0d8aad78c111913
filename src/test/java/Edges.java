/** Calls at the bounds of their numbers and beyond, each on an object made anew; a refused one changes nothing. */
final class Edges {
    private static final long FAR_BELOW = Integer.MIN_VALUE;
    private static final long FAR_ABOVE = Integer.MAX_VALUE;

    private final Due due;

    Edges(String test) {
        due = new Due(test);
    }

    void close() {
        due.close();
    }

    /** The last one's answer of these calls on a new object. */
    void due(String calls, long want) {
        due.due(calls, Run.answer(calls), want);
    }

    /** What text() answers to a text; the tape is empty then, and only a good one is kept. */
    void read(String text, long want) {
        LettersThatCross x = new LettersThatCross();
        due.due("text of '" + text + "'", Due.text(x, text), want);
        due.due("bytes behind '" + text + "'", x.count(5), 0);
        due.due("texts behind '" + text + "'", x.count(3), want > 0 ? 2 : 1);
    }

    /** The call is refused, and all is as if it had not been asked. */
    void refused(String made, String call, long refusal) {
        LettersThatCross x = Run.made(made);
        due.due(made + " | " + call, Run.all(x, call), refusal);
        boolean isUnchanged = Looks.of(x).equals(Looks.of(Run.made(made)));
        due.due(made + " | " + call + ": all as ahead of it", isUnchanged ? 1 : 0, 1);
    }

    /** Refused with each of these numbers in the place of #. */
    void refusedEach(String made, String call, long refusal, long... numbers) {
        for (long number : numbers) {
            refused(made, call.replace("#", Long.toString(number)), refusal);
        }
    }

    /** Refused one below the least, one above the greatest number in the place of #, and far outside. */
    void outside(String made, String call, long least, long greatest, long refusal) {
        refusedEach(made, call, refusal, least - 1, FAR_BELOW, greatest + 1, FAR_ABOVE);
    }

    /** The number in the place of # is answered as due at its least and its greatest, and refused beyond these. */
    void number(String made, String call, long[] least, long[] greatest, long refusal) {
        due(made + " | " + call.replace("#", Long.toString(least[0])), least[1]);
        due(made + " | " + call.replace("#", Long.toString(greatest[0])), greatest[1]);
        outside(made, call, least[0], greatest[0], refusal);
    }

    /** A number, and the answer that is due by it. */
    static long[] at(long number, long answer) {
        return new long[] {number, answer};
    }
}
