/** Calls by which an object comes to a state; Run makes it. */
final class States {
    static final String NEW = "";
    static final String WAYS = "way 5 1 0 1 | way 10 7 20 5";
    /** A letter that asks, its answer, one that goes on, one that is lost, one that comes late. */
    static final String LETTERS = WAYS + " | hold 0 1 6 | turn 1 | write 1 1 0 7 -1 | write 2 10 6 13 0 | write 4 1 7 103 1"
        + " | write 3 12 7 25 -1 | write 0 21 9 0 -1 | lose 3 3";
    static final String FOUR_WAYS = "way 5 1 0 1 | way 10 7 20 5 | way 90 30 100 99 | way 1 1 50 0";
    static final String SIXTEEN = letters(16);
    static final String SIX_TEXTS = texts(5);
    static final String BRIM = " | feed 0 8".repeat(20).substring(3);
    static final String SHEETS = "sheet 0 0 40 | sheet 1 1 0 | sheet 2 2 40 | cell 2 0 1 | cell 2 1 1 | cell 2 4 -1";
    /** As much of all as there can be. */
    static final String FULL = FOUR_WAYS + " | " + SIXTEEN + " | " + SIX_TEXTS + " | force 5 | turn 9 | " + BRIM + " | " + SHEETS
        + " | lose 15 15 | lose 3 5 | image | hold 2 3 9";
    /** Behind back(): two of seven letters were never written. */
    static final String BACK = LETTERS + " | " + "read late 3;write 1;keep age < 9; | force 1 | image | way 2 3 40 5 | turn 7"
        + " | force 0 | hold 2 2 8 | lose 0 1 | lose 3 0 | write 1 2 300 299 2 | write 5 21 300 0 5 | back";

    private States() { }

    private static String letters(int many) {
        StringBuilder calls = new StringBuilder();
        int[] hands = {1, 10, 12, 21, 20, 2};
        for (int l = 0; l < many; l++) {
            int what = l % 4 * 100 + l % 3 * 10 + l % 7;
            int named = l % 2 == 0 ? l - 1 : l - 2;
            calls.append(l == 0 ? "write " : " | write ").append(l % 6).append(' ').append(hands[l % 2 + l / 8 * 2])
                .append(' ').append(3 * l).append(' ').append(what).append(' ').append(named);
        }
        return calls.toString();
    }

    private static String texts(int many) {
        StringBuilder calls = new StringBuilder();
        for (int t = 1; t <= many; t++) {
            calls.append(t == 1 ? "read late " : " | read late ").append(t).append(";write ").append(t - 2)
                .append(";keep ").append(t % 2).append(";");
        }
        return calls.toString();
    }
}
