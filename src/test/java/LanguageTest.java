import java.io.DataInputStream;
import java.io.IOException;
import java.io.InputStream;
import java.lang.reflect.Field;
import java.lang.reflect.Method;
import java.lang.reflect.Modifier;
import java.nio.file.Files;
import java.nio.file.Path;
import java.util.ArrayList;
import java.util.Arrays;
import java.util.List;
import java.util.Set;
import java.util.TreeSet;
import java.util.regex.Matcher;
import java.util.regex.Pattern;

/** The file keeps to those rules of ../shared/LANGUAGE.md that can be looked at without running it. */
public final class LanguageTest {
    private static final Due DUE = new Due("LanguageTest");
    private static final String FILE = "src/main/java/LettersThatCross.java";
    /** Rule 4: what of the library may be called. */
    private static final Set<String> LIBRARY = Set.of("String.length", "String.charAt", "String.isEmpty", "String.equals",
        "String.indexOf", "String.substring", "String.toCharArray", "StringBuilder.append", "StringBuilder.charAt",
        "StringBuilder.setCharAt", "StringBuilder.setLength", "StringBuilder.deleteCharAt", "StringBuilder.reverse",
        "StringBuilder.length", "StringBuilder.toString", "Integer.compare", "Integer.max", "Integer.min", "Integer.bitCount",
        "Long.compare", "Long.max", "Long.min", "Long.bitCount", "Math.max", "Math.min", "Math.abs", "Math.floorDiv",
        "Math.floorMod", "System.arraycopy", "Arrays.copyOf", "Arrays.copyOfRange", "Arrays.fill", "Object.<init>");
    /** Rules 1, 4, 5, 6, 13: what the file has nowhere, outside comments. */
    private static final String[] RULED_OUT = {"\\bpackage\\b", "\\bprotected\\b", "\\bthrow", "\\btry\\b", "\\bcatch\\b",
        "\\bsynchronized\\b", "\\bassert\\b", "->", "::", "\\bvar\\b", "\\bObject\\b", "Exact\\b", "\\bequals\\b",
        "\\bhashCode\\b", "\\btoString\\b", "\\bSystem\\.(?!arraycopy)", "\\bstatic \\{", "\\[\\]\\[\\]", "\\bvolatile\\b",
        "\\bnative\\b", "\\bThread\\b", "\\bwhile \\(true\\)", "for \\(;;\\)"};

    public static void main(String[] args) throws IOException {
        List<Class<?>> classes = new ArrayList<>(List.of(LettersThatCross.class));
        classes.addAll(List.of(LettersThatCross.class.getDeclaredClasses()));
        most("rule 11: classes", classes.size(), 12);
        for (Class<?> each : classes) {
            inside(each);
            fields(each);
            methods(each);
            library(each);
        }
        String source = Files.readString(Path.of(FILE));
        source(source, source.replaceAll("(?s)/\\*.*?\\*/", "").replaceAll("//[^\n]*", ""));
        DUE.close();
    }

    private static void holds(String what, boolean isSo) {
        DUE.due(what, isSo ? 1 : 0, 1);
    }

    private static void most(String what, int many, int most) {
        DUE.due(what + ", at most " + most, Math.max(many, most), most);
    }

    private static void inside(Class<?> each) {
        holds("rule 2: no class inside " + each.getName() + " but the public one",
            each == LettersThatCross.class || each.getDeclaredClasses().length == 0);
        holds("rule 2: " + each.getName() + " has a name of its own", !each.isAnonymousClass() && !each.isLocalClass());
        holds("rule 2: " + each.getName() + " is static, and not public", each == LettersThatCross.class
            || Modifier.isStatic(each.getModifiers()) && !Modifier.isPublic(each.getModifiers())
            && !Modifier.isProtected(each.getModifiers()));
    }

    private static boolean isOwn(Class<?> type) {
        return type == LettersThatCross.class || type.getEnclosingClass() == LettersThatCross.class;
    }

    /** Rule 3: numbers, texts, lists, own classes, rows of these, rows of rows of numbers. */
    private static boolean isType(Class<?> type) {
        Class<?> of = type.isArray() ? type.getComponentType() : type;
        boolean isRowOfNumbers = of.isArray() && of.getComponentType().isPrimitive();
        return of.isPrimitive() || isRowOfNumbers || isOwn(of)
            || Set.of(String.class, StringBuilder.class, Integer.class, ArrayList.class, List.class).contains(of);
    }

    private static void fields(Class<?> each) {
        int own = 0;
        for (Field field : each.getDeclaredFields()) {
            String name = each.getName() + "." + field.getName();
            holds("rule 3: type of " + name, isType(field.getType()));
            if (Modifier.isStatic(field.getModifiers())) {
                boolean isConstant = Set.of(int.class, long.class, boolean.class, char.class, String.class, int[].class, long[].class,
                    char[].class, byte[].class).contains(field.getType());
                holds("rule 5: " + name + " is a constant", isConstant && Modifier.isFinal(field.getModifiers()));
            } else {
                own++;
            }
        }
        most("rule 11: fields of " + each.getName(), own, 20);
    }

    private static void methods(Class<?> each) {
        TreeSet<String> open = new TreeSet<>();
        TreeSet<String> hidden = new TreeSet<>();
        for (Method method : each.getDeclaredMethods()) {
            String name = each.getName() + "." + method.getName();
            most("rule 11: numbers given to " + name, method.getParameterCount(), 7);
            holds("rule 3: types of " + name, method.getReturnType() == void.class || isType(method.getReturnType()));
            holds("rule 3: types given to " + name, Arrays.stream(method.getParameterTypes()).allMatch(LanguageTest::isType));
            (Modifier.isPublic(method.getModifiers()) ? open : hidden).add(method.getName());
        }
        hidden.retainAll(open);
        holds("rule 1: no private method of " + each.getName() + " bears a public one's name", hidden.isEmpty());
    }

    /** Rules 4 and 6, by the names that the compiled class calls. */
    private static void library(Class<?> each) throws IOException {
        try (InputStream bytes = each.getResourceAsStream(each.getName() + ".class")) {
            for (String call : new Names(new DataInputStream(bytes)).calls()) {
                boolean isLibrary = !call.startsWith("LettersThatCross");
                holds("rule 4: " + each.getName() + " calls " + call, !isLibrary || LIBRARY.contains(call));
            }
        }
    }

    private static void source(String source, String code) {
        for (String rule : RULED_OUT) {
            DUE.due("places of " + rule, places(code, rule), 0);
        }
        DUE.due("rule 4: imports", places(code, "\\bimport\\b"), places(code, "import java\\.util\\.Arrays;"));
        DUE.due("signs of the file beyond 127", source.chars().filter(c -> c > 127).count(), 0);
        DUE.due("rule 10: texts joined by +", places(code, "\"\\s*\\+|\\+\\s*\""), 0);
        most("rule 11: lines of the longest method", longestMethod(code), 60);
    }

    private static int longestMethod(String code) {
        Matcher method = Pattern.compile("(?m)^( {4}| {8})\\S.*\\) \\{\n(?:\\1 .*\n|\n)*\\1\\}$").matcher(code);
        int found = 0;
        int longest = 0;
        while (method.find()) {
            found++;
            longest = Math.max(longest, method.group().split("\n").length);
        }
        DUE.due("methods found, at least 47", Math.min(47, found), 47);
        return longest;
    }

    private static int places(String code, String rule) {
        return (int) Pattern.compile(rule).matcher(code).results().count();
    }

    /** The names that a compiled class holds (The Java Virtual Machine Specification, 4.4). */
    private static final class Names {
        private final Object[] held;
        private final int[] kinds;

        Names(DataInputStream in) throws IOException {
            DUE.due("a class's first bytes", in.readInt(), 0xCAFEBABE);
            in.readInt();
            int many = in.readUnsignedShort();
            held = new Object[many];
            kinds = new int[many];
            for (int i = 1; i < many; i++) {
                kinds[i] = in.readUnsignedByte();
                held[i] = read(in, kinds[i]);
                // A long or a double takes two places.
                i += kinds[i] == 5 || kinds[i] == 6 ? 1 : 0;
            }
        }

        private static Object read(DataInputStream in, int kind) throws IOException {
            switch (kind) {
                case 1: return in.readUTF();
                case 5: case 6: return in.readLong();
                case 3: case 4: return in.readInt();
                case 9: case 10: case 11: case 12: case 17: case 18:
                    return new int[] {in.readUnsignedShort(), in.readUnsignedShort()};
                case 15: return new int[] {in.readUnsignedByte(), in.readUnsignedShort()};
                default: return new int[] {in.readUnsignedShort()};
            }
        }

        private String text(int place, int part) {
            Object at = held[((int[]) held[place])[part]];
            return at instanceof String ? (String) at : "";
        }

        /** Methods as Class.name, without the class's package; what is bound as it runs (18) under a name that is none. */
        Set<String> calls() {
            Set<String> calls = new TreeSet<>();
            for (int i = 1; i < held.length; i++) {
                if (kinds[i] == 10 || kinds[i] == 11) {
                    int[] both = (int[]) held[i];
                    calls.add(text(both[0], 0).replaceAll(".*/", "") + "." + text(both[1], 0));
                } else if (kinds[i] == 18) {
                    calls.add("what is bound as it runs");
                }
            }
            return calls;
        }
    }
}
