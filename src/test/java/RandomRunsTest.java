import java.lang.reflect.Method;
import java.util.ArrayList;
import java.util.Arrays;
import java.util.List;
import java.util.Random;

/** Runs of calls drawn by fixed seeds, each answer compared with the Model's. Arguments: first seed, how many. */
public final class RandomRunsTest {
    private static final int CALLS = 512;
    /** Each call, how often it comes, and what its arguments are. */
    private static final String[] CALL = {
        "way 4 takes every percent cost", "turn 5 digit", "hold 8 hand thing digit", "count 3 six", "arrive 4 w written",
        "cheapest 4 written day", "last 4 w day", "force 6 text", "lose 12 l set", "told 8 l ten",
        "holdsThen 16 hand thing day", "knew 16 two thing day bit", "first 10 two thing digit", "isTrue 8 l",
        "archive 6 hand day bit", "sure 8 l day", "both 6 day bit", "crosses 6 l l", "crossed 5 l", "times 6 l day",
        "never 5 day bit", "whatever 3 l six three", "lacks 6 two day", "forged 4", "bargain 8 l three", "obeys 6 l day",
        "line 6 l", "ring 5 w ringdays four", "ends 3 w ringdays", "ifs 3 percent seven bit", "many 3 percent cost cost",
        "again 4 w cost twice", "surer 4 waytwo bit", "copies 4 w percent", "costs 2", "odds 4 l bit",
        "drawn 6 seed hand three", "image 3", "back 3", "sheet 6 s sort cells", "cell 16 s cells five",
        "copy 6 s cells s cells cells", "lettersBy 5 s sort cells nine", "taken 6 place seven"};

    private final Random random;
    private final LettersThatCross x = new LettersThatCross();
    private final Model model = new Model();
    private final List<String> run = new ArrayList<>();
    private int lastDay;
    private boolean isWrong;

    private RandomRunsTest(long seed) {
        random = new Random(seed);
    }

    public static void main(String[] args) throws Exception {
        long first = args.length > 0 ? Long.parseLong(args[0]) : 1;
        int many = args.length > 1 ? Integer.parseInt(args[1]) : 60;
        int wrong = 0;
        for (long seed = first; seed < first + many; seed++) {
            RandomRunsTest test = new RandomRunsTest(seed);
            test.runAll();
            if (test.isWrong) {
                wrong++;
                System.out.println("RandomRunsTest: seed " + seed + ": " + test.run.get(test.run.size() - 1));
            }
        }
        System.out.println("RandomRunsTest: " + many + " runs, " + wrong + " not as due");
        if (wrong != 0) {
            System.exit(1);
        }
    }

    private void runAll() throws Exception {
        int setUp = 20 + random.nextInt(60);
        while (run.size() < CALLS && !isWrong) {
            int dice = random.nextInt(100);
            boolean early = run.size() < setUp;
            if (dice < (early ? 50 : 5)) {
                writeLetter();
            } else if (dice < (early ? 60 : 7)) {
                feedText();
            } else if (dice < (early ? 70 : 7)) {
                call(CALL[0]);
            } else {
                call(drawCall());
            }
        }
    }

    private String drawCall() {
        int sum = 0;
        for (String call : CALL) {
            sum += Integer.parseInt(call.split(" ")[1]);
        }
        int dice = random.nextInt(sum);
        for (String call : CALL) {
            dice -= Integer.parseInt(call.split(" ")[1]);
            if (dice < 0) {
                return call;
            }
        }
        return CALL[0];
    }

    private void call(String call) throws Exception {
        String[] words = call.split(" ");
        Object[] arguments = new Object[words.length - 2];
        for (int i = 0; i < arguments.length; i++) {
            arguments[i] = random.nextInt(25) == 0 ? odd() : number(words[i + 2]);
        }
        ask(words[0], arguments);
    }

    private Object odd() {
        int[] odd = {-1, -2, 4, 10, 16, 99, 101, 401, 1000, 100000, Integer.MIN_VALUE, Integer.MAX_VALUE};
        return odd[random.nextInt(odd.length)];
    }

    private Object number(String sort) {
        switch (sort) {
            case "takes": return 1 + random.nextInt(random.nextBoolean() ? 20 : 90);
            case "every": return random.nextBoolean() ? 1 : 1 + random.nextInt(30);
            case "percent": return random.nextInt(4) == 0 ? 100 * random.nextInt(2) : random.nextInt(101);
            case "cost": return random.nextInt(random.nextBoolean() ? 10 : 100);
            case "digit": return random.nextInt(random.nextBoolean() ? 3 : 10);
            case "hand": return random.nextInt(3);
            case "thing": return random.nextInt(random.nextBoolean() ? 2 : 4);
            case "bit": return random.nextInt(2);
            case "three": return random.nextInt(3);
            case "four": return random.nextInt(4);
            case "six": return random.nextInt(6);
            case "seven": return random.nextInt(7);
            case "nine": return random.nextInt(9);
            case "ten": return random.nextInt(10);
            case "w": return random.nextInt(Math.max(1, model.count(0)));
            case "l": return random.nextInt(Math.max(1, model.count(1)));
            case "text": return random.nextInt(model.count(3));
            case "set": return random.nextInt(random.nextInt(4) == 0 ? 16 : 1 << model.count(0));
            case "written": return random.nextInt(401);
            case "day": return random.nextInt(random.nextInt(4) == 0 ? 1000 : lastDay + 60);
            case "ringdays": return random.nextInt(151);
            case "twice": return random.nextInt(random.nextBoolean() ? 100 : 10000);
            case "seed": return random.nextInt(100000);
            case "two": return new int[] {1, 2, 10, 12, 20, 21}[random.nextInt(6)];
            case "waytwo": return 10 * (int) number("w") + (int) number("w");
            case "s": return random.nextInt(4);
            case "sort": return random.nextInt(4) - 1;
            case "cells": return random.nextInt(random.nextBoolean() ? 12 : 41);
            case "place": return random.nextInt(20);
            case "five": return random.nextInt(5) == 0 ? random.nextInt() : random.nextInt(30) - 1;
            default: throw new IllegalStateException(sort);
        }
    }

    private void writeLetter() throws Exception {
        int hands = (int) number("two");
        int named = -1;
        if (model.count(1) > 0 && random.nextInt(3) > 0) {
            named = (int) number("l");
            int two = 10 * model.told(named, 2) + model.told(named, 1);
            hands = random.nextInt(3) > 0 ? two : hands;
        }
        if (random.nextInt(3) == 0) {
            hands = random.nextBoolean() ? 1 : 10;
        }
        int kind = named >= 0 && random.nextInt(3) > 0 ? 2 + 3 * random.nextInt(2) : random.nextInt(6);
        int day = Math.min(400, lastDay + random.nextInt(random.nextInt(4) == 0 ? 40 : 8));
        int what = 100 * (int) number("w") + 10 * (int) number("thing") + (int) number("digit");
        lastDay = Math.max(lastDay, day);
        day = random.nextInt(20) == 0 ? day - 5 : day;
        ask("write", kind, hands, day, what, named);
    }

    private void feedText() throws Exception {
        StringBuilder text = new StringBuilder();
        for (String key : new String[] {"late", "write", "keep"}) {
            text.append(blanks()).append(key).append(' ');
            any(text, 0);
            text.append(blanks()).append(';');
        }
        if (random.nextInt(3) == 0) {
            int at = random.nextInt(text.length() + 1);
            String[] signs = {"(", ")", "-", "not ", "9", " ", "?", "or ", "=", "<", ";", "da", "\t", "\u00ff", "\n", " day "};
            text.replace(at, Math.min(text.length(), at + random.nextInt(3)), signs[random.nextInt(signs.length)]);
        }
        for (int from = 0; from < text.length(); ) {
            int n = Math.min(text.length() - from, 1 + random.nextInt(8));
            long bytes = random.nextLong();
            for (int i = 0; i < n; i++) {
                bytes = bytes << 8 | text.charAt(from + i);
            }
            ask("feed", bytes, n);
            from += n;
        }
        ask("text");
        if (random.nextBoolean()) {
            ask("force", random.nextInt(model.count(3)));
        }
    }

    private String blanks() {
        return new String[] {"", " ", "\n", "  "}[random.nextInt(4)];
    }

    private void any(StringBuilder text, int deep) {
        String[] signs = {"+", "-", "*", "<", "=", " and ", " or "};
        int parts = 1 + random.nextInt(deep > 1 ? 2 : 4);
        for (int i = 0; i < parts; i++) {
            if (i > 0) {
                text.append(blanks()).append(signs[random.nextInt(signs.length)]).append(blanks());
            }
            one(text, deep);
        }
    }

    private void one(StringBuilder text, int deep) {
        int dice = random.nextInt(10);
        if (dice < 3) {
            text.append(random.nextInt(new int[] {3, 20, 150, 11000}[random.nextInt(4)]));
        } else if (dice < 6) {
            text.append(new String[] {"season", "long", "had", "wrote", "age", "day"}[random.nextInt(6)]);
        } else if (dice == 6) {
            text.append("-");
            one(text, deep + 1);
        } else if (dice == 7) {
            text.append("not ");
            one(text, deep + 1);
        } else {
            text.append("(");
            any(text, deep + 1);
            text.append(")");
        }
    }

    /** Asks both. */
    private void ask(String name, Object... arguments) throws Exception {
        if (isWrong || run.size() >= CALLS) {
            return;
        }
        Class<?>[] types = new Class<?>[arguments.length];
        for (int i = 0; i < types.length; i++) {
            types[i] = arguments[i] instanceof Long ? long.class : int.class;
        }
        long want = answer(Model.class.getDeclaredMethod(name, types), model, arguments);
        long got = answer(LettersThatCross.class.getMethod(name, types), x, arguments);
        isWrong = got != want;
        run.add("call " + run.size() + ": " + name + Arrays.toString(arguments) + " answered " + got + ", due is " + want);
    }

    private static long answer(Method method, Object of, Object[] arguments) throws Exception {
        return ((Number) method.invoke(of, arguments)).longValue();
    }
}
