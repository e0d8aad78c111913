import java.lang.reflect.Member;
import java.lang.reflect.Method;
import java.lang.reflect.Modifier;
import java.util.ArrayList;
import java.util.Arrays;
import java.util.List;
import java.util.TreeSet;

/** The public face is the document's. */
public final class FaceTest {
    private static final Due DUE = new Due("FaceTest");
    private static final String FACE = "way 4, turn 1, hold 3, count 1, arrive 2, cheapest 2, last 2, text 0, force 1, write 5, "
        + "lose 2, told 2, holdsThen 3, knew 4, first 3, isTrue 1, archive 3, sure 2, both 2, crosses 2, crossed 1, times 2, "
        + "never 2, whatever 3, lacks 2, forged 0, bargain 2, obeys 2, line 1, ring 3, ends 2, ifs 3, many 3, again 3, "
        + "surer 2, copies 2, costs 0, odds 2, drawn 3, image 0, back 0, sheet 3, cell 3, copy 5, lettersBy 4, taken 2";
    private static final List<String> LONGS = List.of("ifs", "surer", "odds");

    public static void main(String[] args) throws Exception {
        constants();
        methods();
        nothingElse();
        DUE.close();
    }

    private static void due(String what, long got, long want) {
        DUE.due(what, got, want);
    }

    private static void constants() {
        due("NONE", LettersThatCross.NONE, -1);
        due("BAD", LettersThatCross.BAD, -2);
        due("STATE", LettersThatCross.STATE, -3);
        due("FULL", LettersThatCross.FULL, -4);
        due("NO", LettersThatCross.NO, -4611686018427387904L);
        due("public fields", LettersThatCross.class.getFields().length, 5);
    }

    private static void methods() throws Exception {
        TreeSet<String> names = new TreeSet<>(List.of("feed"));
        for (String each : FACE.split(", ")) {
            String[] words = each.split(" ");
            Class<?>[] types = new Class<?>[Integer.parseInt(words[1])];
            Arrays.fill(types, int.class);
            Method method = LettersThatCross.class.getMethod(words[0], types);
            Class<?> answer = LONGS.contains(words[0]) ? long.class : int.class;
            due("type of " + words[0], method.getReturnType() == answer ? 1 : 0, 1);
            names.add(words[0]);
        }
        Method feed = LettersThatCross.class.getMethod("feed", long.class, int.class);
        due("type of feed", feed.getReturnType() == int.class ? 1 : 0, 1);
        due("names", names.size(), 47);
        due("the class is final", Modifier.isFinal(LettersThatCross.class.getModifiers()) ? 1 : 0, 1);
        for (Method method : LettersThatCross.class.getDeclaredMethods()) {
            boolean isPublic = Modifier.isPublic(method.getModifiers());
            due("public " + method.getName(), isPublic == names.contains(method.getName()) ? 1 : 0, 1);
        }
    }

    private static void nothingElse() {
        List<Member> members = new ArrayList<>(List.of(LettersThatCross.class.getDeclaredMethods()));
        members.addAll(List.of(LettersThatCross.class.getDeclaredFields()));
        int publics = 0;
        for (Member member : members) {
            boolean isPublic = Modifier.isPublic(member.getModifiers());
            due(member.getName() + " is public or private", isPublic || Modifier.isPrivate(member.getModifiers()) ? 1 : 0, 1);
            publics += isPublic ? 1 : 0;
        }
        due("public members", publics, 47 + 5);
        due("constructors", LettersThatCross.class.getDeclaredConstructors().length, 1);
        due("classes inside, at most 11", Math.max(11, LettersThatCross.class.getDeclaredClasses().length), 11);
        for (Class<?> inside : LettersThatCross.class.getDeclaredClasses()) {
            due(inside.getName() + " is static", Modifier.isStatic(inside.getModifiers()) ? 1 : 0, 1);
        }
    }
}
