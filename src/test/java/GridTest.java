import java.util.List;

/** Each call with all its numbers at their bounds and beyond, in some states, compared with the Model. */
public final class GridTest {
    private static final Due DUE = new Due("GridTest");
    /** Of one object; with those that make it and look at it no more than 512. */
    private static final int CALLS = 16;
    private static final String[] STATES = {States.NEW, States.WAYS, States.LETTERS, States.FULL, States.BACK,
        States.FULL + " | back", States.FOUR_WAYS + " | write 1 1 0 5 -1 | write 3 1 400 339 -1 | write 5 10 400 339 0 | turn 9"};
    /** In the places of numbers: those that are tried; m and M are the least and the greatest int. */
    private static final String[] GRID = {
        "way m,0,1,90,91,M m,0,1,30,31,M m,-1,0,100,101,M m,-1,0,99,100,M", "turn m,-1,0,9,10,M",
        "hold m,-1,0,2,3,M m,-1,0,3,4,M m,-1,0,9,10,M",
        "count m,-1,0,1,2,3,4,5,6,M", "arrive m,-1,0,1,2,3,4,M m,-1,0,1,399,400,401,M",
        "cheapest m,-1,0,1,400,401,M m,-1,0,9,10,999,1000,M",
        "last m,-1,0,1,3,4,M m,-1,0,1,5,404,405,406,999,1000,M", "feed m,-1,0,1,255,M m,-1,0,1,7,8,9,M", "text", "force m,-1,0,1,2,5,6,M",
        "write m,-1,0,5,6,M -1,0,1,11,12,21,30 -1,0,9,44,45,400,401 m,-1,0,39,40,139,339,400,M m,-2,-1,0,4,5,15,16,M",
        "lose m,-1,0,3,4,5,15,16,M m,-1,0,1,2,3,4,15,16,M", "told m,-1,0,4,5,15,16,M m,-1,0,1,2,3,4,5,6,7,8,9,10,M",
        "holdsThen m,-1,0,1,2,3,M m,-1,0,3,4,M m,-1,0,5,10,999,1000,M",
        "knew m,-1,0,1,2,10,11,12,20,21,22,30,M m,-1,0,1,3,4,M m,-1,0,16,999,1000,M -1,0,1,2",
        "first -1,0,1,10,12,22,M -1,0,1,3,4 m,-1,0,6,7,9,10,M",
        "isTrue m,-1,0,1,2,3,4,5,15,16,M", "archive m,-1,0,1,2,3,M m,-1,0,10,16,999,1000,M m,-1,0,1,2,M",
        "sure m,-1,0,1,4,5,15,16,M m,-1,0,10,16,999,1000,M", "both m,-1,0,10,16,999,1000,M m,-1,0,1,2,M",
        "crosses m,-1,0,1,2,3,4,5,15,16,M m,-1,0,1,2,3,4,5,15,16,M", "crossed m,-1,0,1,2,3,4,5,15,16,M",
        "times m,-1,0,4,5,15,16,M m,-1,0,10,999,1000,M", "never m,-1,0,10,16,999,1000,M m,-1,0,1,2,M",
        "whatever m,-1,0,4,5,15,16,M m,-1,0,1,3,5,6,7,M m,-1,0,1,2,3,M", "lacks m,-1,0,1,2,10,11,12,20,21,22,30,M m,-1,0,20,22,999,1000,M",
        "forged", "bargain m,-1,0,1,4,5,15,16,M m,-1,0,1,2,3,M", "obeys m,-1,0,4,5,15,16,M m,-1,0,8,9,44,45,399,400,999,1000,M",
        "line m,-1,0,1,2,3,4,5,15,16,M", "ring m,-1,0,1,2,3,4,M m,-1,0,1,2,6,40,149,150,151,M m,-1,0,1,2,3,4,M",
        "ends m,-1,0,1,2,3,4,M m,-1,0,1,2,3,150,151,M", "ifs m,-1,0,1,99,100,101,M m,-1,0,1,6,7,M m,-1,0,1,2,M",
        "many m,-1,0,1,50,100,101,M m,0,1,2,99,100,M m,-1,0,1,99,100,M",
        "again m,-1,0,1,2,3,4,M m,-1,0,1,99,100,M m,-1,0,1,9999,10000,M",
        "surer m,-1,0,1,2,3,4,10,11,12,13,22,30,33,34,40,44,M m,-1,0,1,2,M", "copies m,-1,0,1,2,3,4,M m,-1,0,1,99,100,101,M",
        "costs", "odds m,-1,0,1,2,3,4,5,15,16,M m,-1,0,1,2,M",
        "drawn m,-1,0,1,99999,100000,M m,-1,0,1,2,3,M m,-1,0,1,2,3,M", "image", "back",
        "sheet m,-1,0,3,4,M m,-2,-1,0,2,3,M m,-1,0,1,40,41,M", "cell m,-1,0,1,2,3,4,M m,-1,0,39,40,M m,-1,0,M",
        "copy -1,0,1,2,3,4 m,-1,0,1,40,41,M 0,1,2,3,4 m,0,39,40,M m,-1,0,1,40,41,M",
        "lettersBy -1,0,1,2,3,4 -1,0,1,2,3 m,-1,0,1,35,36,40,41,M m,-1,0,1,8,9,M",
        "taken m,-1,0,1,2,3,4,5,8,9,19,20,M m,-1,0,1,2,3,4,5,6,7,M"};
    private static final List<String> CHANGES = List.of("way", "turn", "hold", "feed", "text", "force", "write", "lose", "image", "back",
        "sheet", "cell", "copy", "lettersBy");

    private final String state;
    private LettersThatCross x;
    private Model model;
    private int calls;

    private GridTest(String state) {
        this.state = state;
    }

    public static void main(String[] args) {
        for (String state : STATES) {
            GridTest grid = new GridTest(state);
            for (String row : GRID) {
                grid.makeAnew();
                grid.walk(row.split(" "), new long[row.split(" ").length - 1], 0);
                grid.lookAtAll(row);
            }
        }
        DUE.close();
    }

    private void makeAnew() {
        x = Run.made(state);
        model = new Model();
        Run.all(model, state);
        calls = 0;
    }

    /** Each number of the place in turn, with each of the further places'. */
    private void walk(String[] row, long[] numbers, int place) {
        if (place == numbers.length) {
            ask(row[0], numbers);
            return;
        }
        for (String word : row[place + 1].split(",")) {
            numbers[place] = word.equals("m") ? Integer.MIN_VALUE : word.equals("M") ? Integer.MAX_VALUE : Long.parseLong(word);
            walk(row, numbers, place + 1);
        }
    }

    private void ask(String name, long[] numbers) {
        long got = Run.call(x, name, numbers);
        long want = Run.call(model, name, numbers);
        DUE.due(name + java.util.Arrays.toString(numbers) + " behind '" + state + "'", got, want);
        calls++;
        boolean mayHaveChanged = CHANGES.contains(name) && (got >= 0 || name.equals("lettersBy") || name.equals("text"));
        if (mayHaveChanged) {
            for (int what = 0; what < 6; what++) {
                DUE.due("count(" + what + ") behind " + name, x.count(what), model.count(what));
            }
            makeAnew();
        } else if (calls >= CALLS) {
            lookAtAll(name);
            makeAnew();
        }
    }

    /** What was only asked, or refused, changed nothing. */
    private void lookAtAll(String name) {
        boolean isUnchanged = Looks.of(x).equals(Looks.of(Run.made(state)));
        DUE.due("all behind " + name + " as behind '" + state + "'", isUnchanged ? 1 : 0, 1);
    }
}
