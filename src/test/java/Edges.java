import java.lang.reflect.InvocationTargetException;
import java.lang.reflect.Method;
import java.nio.file.Files;
import java.nio.file.Path;
import java.util.ArrayList;
import java.util.Arrays;
import java.util.LinkedHashMap;
import java.util.List;
import java.util.Map;

/**
 * What the tests of the document's edges share. Each test bears the words of the document that it holds the class to;
 * they are looked up there, and in the end all words of the document that no test bears are told.
 */
abstract class Edges {
    static final String ARGUMENT = "IllegalArgumentException";
    static final String STATE = "IllegalStateException";
    static final String INDEX = "IndexOutOfBoundsException";

    private static final Path DOCUMENT = Path.of("../shared/DOC.md");

    interface Test {
        void run();
    }

    /** Calls on a new object, each with its name and what it takes. */
    static final class Recipe {
        final List<Object[]> calls = new ArrayList<>();

        Recipe then(String method, Object... arguments) {
            Recipe longer = new Recipe();
            longer.calls.addAll(calls);
            Object[] call = new Object[arguments.length + 1];
            call[0] = method;
            System.arraycopy(arguments, 0, call, 1, arguments.length);
            longer.calls.add(call);
            return longer;
        }

        Diophantdesk made() {
            Diophantdesk desk = new Diophantdesk();
            doneOn(desk, false);
            return desk;
        }

        /** An object that was asked for all it knows ahead of each call. */
        Diophantdesk madeWithQuestions() {
            Diophantdesk desk = new Diophantdesk();
            doneOn(desk, true);
            return desk;
        }

        Reference madeByReference() {
            Reference reference = new Reference();
            doneOn(reference, false);
            return reference;
        }

        private void doneOn(Object object, boolean isAsked) {
            for (Object[] call : calls) {
                if (isAsked) {
                    outcome(object, "digest");
                }
                Object got = outcome(object, (String) call[0], Arrays.copyOfRange(call, 1, call.length));
                if (got instanceof String && ((String) got).startsWith("throws.")) {
                    fail(Arrays.toString(call) + " is taken, but got " + got);
                }
            }
        }
    }

    private static final Map<String, String> texts = new LinkedHashMap<>();
    private static final Map<String, boolean[]> borne = new LinkedHashMap<>();
    private static String scope;
    private static String words;
    private static int tests;
    private static int checks;
    private static int wrong;

    // ---- the document

    /** The scopes: "head", "0" for what stands ahead of the sections, "1" to "7", "Promise 1" to "Promise 40". */
    static void readDocument() throws Exception {
        String at = null;
        for (String line : Files.readAllLines(DOCUMENT)) {
            if (line.startsWith("## What it is")) {
                at = "head";
            } else if (line.startsWith("## Description")) {
                at = "0";
            } else if (line.startsWith("== ")) {
                at = line.substring(3, line.indexOf('.'));
            } else if (line.startsWith("## Promise ")) {
                at = line.substring(3, line.indexOf(':'));
            } else if (line.startsWith("## ")) {
                at = null;
            } else if (at != null && !isHeading(at, line)) {
                texts.merge(at, plain(line), (before, more) -> plain(before + " " + more));
            }
        }
        for (Map.Entry<String, String> text : texts.entrySet()) {
            borne.put(text.getKey(), new boolean[text.getValue().length()]);
        }
    }

    /** The signature of a promise and the part that begins there tell nothing of their own; nor do names of parameters. */
    private static boolean isHeading(String at, String line) {
        return line.startsWith("---- ") || line.startsWith("`") && at.startsWith("Promise")
                || line.matches("- `\\w+`: \\w+");
    }

    private static String plain(String text) {
        return text.strip().replaceAll("\\s+", " ");
    }

    /** The tests that follow bear words of this part of the document. */
    static void in(String newScope) {
        scope = newScope;
        if (!texts.containsKey(scope)) {
            fail("the document has no part " + scope);
            texts.put(scope, "");
            borne.put(scope, new boolean[0]);
        }
    }

    static void inPromise(int n) {
        in("Promise " + n);
    }

    static void of(String wordsOfDocument, Test test) {
        words = plain(wordsOfDocument);
        int from = texts.get(scope).indexOf(words);
        if (from < 0) {
            fail("the document does not say so");
        } else {
            Arrays.fill(borne.get(scope), from, from + words.length(), true);
        }
        int before = checks;
        tests++;
        test.run();
        if (checks == before) {
            fail("nothing is checked");
        }
    }

    /** Tells the words of the document that no test bears. */
    static void tellUnborne() {
        for (Map.Entry<String, String> text : texts.entrySet()) {
            boolean[] marks = borne.get(text.getKey());
            StringBuilder rest = new StringBuilder();
            for (int i = 0; i <= marks.length; i++) {
                if (i < marks.length && !marks[i]) {
                    rest.append(text.getValue().charAt(i));
                } else if (rest.toString().matches(".*\\w.*")) {
                    wrong++;
                    System.out.println(text.getKey() + ": no test bears \"" + rest.toString().strip() + "\"");
                    rest.setLength(0);
                } else {
                    rest.setLength(0);
                }
            }
        }
    }

    static int report() {
        System.out.println(tests + " sentences, " + checks + " checks, " + wrong + " wrong");
        return wrong;
    }

    // ---- checks

    private static void fail(String what) {
        wrong++;
        StackTraceElement[] stack = new Throwable().getStackTrace();
        StackTraceElement at = stack[1];
        for (int i = stack.length - 1; i > 0; i--) {
            if (stack[i].getClassName().startsWith("EdgesOf")) {
                at = stack[i];
            }
        }
        if (wrong < 200) {
            System.out.println(scope + ", \"" + words + "\" (" + at.getFileName() + ":" + at.getLineNumber() + "): " + what);
        }
    }

    static void due(Object want, Object got) {
        checks++;
        if (!want.equals(got)) {
            fail("due is " + want + ", got " + got);
        }
    }

    /** The answer of a call, or throws. and the exception's name. */
    static Object outcome(Object object, String name, Object... arguments) {
        try {
            return methodOf(object.getClass(), name).invoke(object, arguments);
        } catch (InvocationTargetException thrown) {
            return "throws." + thrown.getCause().getClass().getSimpleName();
        } catch (IllegalAccessException never) {
            throw new IllegalStateException(never);
        }
    }

    private static final Map<String, Method> methods = new LinkedHashMap<>();

    private static Method methodOf(Class<?> c, String name) {
        return methods.computeIfAbsent(c.getSimpleName() + "." + name, key -> {
            for (Method method : c.getDeclaredMethods()) {
                if (method.getName().equals(name) && !java.lang.reflect.Modifier.isPrivate(method.getModifiers())) {
                    return method;
                }
            }
            throw new IllegalArgumentException("there is no " + key);
        });
    }

    /** What a call on an object made so answers, or throws; what was asked ahead of it makes no difference. */
    static void asks(Object want, Recipe recipe, String name, Object... arguments) {
        due(want, outcome(recipe.made(), name, arguments));
        Diophantdesk asked = recipe.madeWithQuestions();
        asked.digest();
        due(want, outcome(asked, name, arguments));
    }

    /** The call is refused by just this exception, and all is and can be undone as if it had not been tried. */
    static void refused(String exception, Recipe recipe, String name, Object... arguments) {
        Diophantdesk tried = recipe.made();
        Diophantdesk untried = recipe.made();
        Object got = outcome(tried, name, arguments);
        if (!got.equals("throws." + exception)) {
            fail(name + Arrays.toString(arguments) + ": due is throws." + exception + ", got " + got);
        }
        checks++;
        due(story(untried), story(tried));
    }

    /** The call is no CHANGE: behind it all is as ahead of it (but for what a knock counts). */
    static void changesNothing(Recipe recipe, String name, Object... arguments) {
        due(story(recipe.made()), story(recipe.then(name, arguments).made()));
    }

    /** The call is taken, and what it answers and leaves is as the Reference has it. */
    static void taken(Recipe recipe, String name, Object... arguments) {
        Diophantdesk desk = recipe.made();
        Reference reference = recipe.madeByReference();
        Object want = outcome(reference, name, arguments);
        Object got = outcome(desk, name, arguments);
        if (!want.equals(got) || got.equals("throws." + ARGUMENT) || got.equals("throws." + INDEX)) {
            fail(name + Arrays.toString(arguments) + ": due is " + want + ", got " + got);
        }
        checks++;
        due(glance(reference), glance(desk));
        outcome(desk, "undo");
        outcome(reference, "undo");
        due(glance(reference), glance(desk));
    }

    /** Of the numbers that a call takes the one at a place is let from low to high: both are tried, and what is beyond. */
    static void bounds(String exception, int low, int high, int at, String name, Object... arguments) {
        for (Recipe recipe : new Recipe[] {fresh(), full(), halfway()}) {
            boundsFor(recipe, exception, low, high, at, name, arguments);
        }
    }

    static void boundsFor(Recipe recipe, String exception, int low, int high, int at, String name, Object... arguments) {
        for (int value : new int[] {low, Math.min(low + 1, high), Math.max(high - 1, low), high}) {
            taken(recipe, name, put(arguments, at, value));
        }
        for (int value : new int[] {low - 1, high + 1, low - 256, high + 256, Integer.MIN_VALUE, Integer.MAX_VALUE}) {
            refused(exception, recipe, name, put(arguments, at, value));
        }
    }

    private static Object[] put(Object[] arguments, int at, int value) {
        Object[] others = arguments.clone();
        others[at] = value;
        return others;
    }

    // ---- objects and what they tell

    static Recipe fresh() {
        return new Recipe();
    }

    /** All that can be there: four rows, five coins, eight CHANGES of several kinds behind it. */
    static Recipe full() {
        return fresh().then("knock")
                .then("unknowns", 4).then("row", 3, 6, 9, 12, 3).then("row", 6, 10, 15, 0, 1).then("row", -2, 0, 5, 7, 40)
                .then("coin", 6).then("coin", 10).then("coin", 15).then("coin", 30)
                .then("row", 20, -20, 0, 1, 999).then("coin", 21).then("lattice", 7, 0, 3, 1)
                .then("equation", 6, 10, 14).then("jugs", 7, 4).then("jug", 0).then("changeRow", 0, 4, 6).then("jug", 4);
    }

    /** Some of all, an EQUATION and a SYSTEM without an ANSWER, and CHANGES that were undone. */
    static Recipe halfway() {
        return fresh().then("equation", 6, -10, 15).then("unknowns", 3).then("row", 2, 4, 4, 9, 6)
                .then("coin", 4).then("coin", 6).then("undo").then("row", -6, 6, 12, 0, 7).then("jug", 1)
                .then("jug", 5).then("undo").then("undo").then("knock").then("knock").then("lattice", 5, 1, 1, 5);
    }

    static Recipe coins(int... values) {
        Recipe recipe = fresh();
        for (int value : values) {
            recipe = recipe.then("coin", value);
        }
        return recipe;
    }

    /** Each row with as many FACTORS as there are UNKNOWNS, and its RIGHT side. */
    static Recipe system(int unknowns, int[]... rows) {
        Recipe recipe = fresh().then("unknowns", unknowns);
        for (int[] row : rows) {
            int[] of = new int[4];
            System.arraycopy(row, 0, of, 0, unknowns);
            recipe = recipe.then("row", of[0], of[1], of[2], of[3], row[unknowns]);
        }
        return recipe;
    }

    static int[] row(int... numbers) {
        return numbers;
    }

    static Recipe equation(int a, int b, int c) {
        return fresh().then("equation", a, b, c);
    }

    /** What can be seen, but for the digest. */
    static String glance(Object object) {
        StringBuilder text = new StringBuilder();
        for (int what = 0; what <= 5; what++) {
            tell(text, object, "desk", what);
        }
        for (int what = 0; what <= 1; what++) {
            tell(text, object, "ofSystem", what);
        }
        for (int place = 0; place < 4; place++) {
            tell(text, object, "form", place);
        }
        tell(text, object, "answer");
        tell(text, object, "paper");
        for (int what = 0; what <= 5; what++) {
            tell(text, object, "ofCoins", what);
        }
        tell(text, object, "payable", 0, 900);
        tell(text, object, "shortest", 0);
        tell(text, object, "nearest", 17, 29, 1);
        for (int i = 0; i < 4; i++) {
            tell(text, object, "inJug", i % 2 == 1, i > 1);
        }
        return text.toString();
    }

    private static void tell(StringBuilder text, Object object, String name, Object... arguments) {
        text.append(outcome(object, name, arguments)).append("; ");
    }

    /** What can be seen now and behind each CHANGE that can be undone. */
    static String story(Diophantdesk desk) {
        StringBuilder text = new StringBuilder(glance(desk)).append(desk.digest());
        for (int i = 0; i <= 9; i++) {
            Object undone = outcome(desk, "undo");
            text.append('\n').append(undone).append(": ");
            if (undone instanceof String) {
                break;
            }
            text.append(glance(desk)).append(desk.digest());
        }
        return text.toString();
    }

    /** The SYSTEM has just these ACTS. */
    static void askActs(Recipe system, String... acts) {
        asks(acts.length, system, "ofSystem", 5);
        for (int n = 0; n < acts.length; n++) {
            asks(acts[n], system, "act", n);
        }
        asks("throws." + INDEX, system, "act", acts.length);
    }

    /** FORM of the SYSTEM has just these rows. */
    static void askForm(Recipe system, String... rows) {
        for (int place = 0; place < rows.length; place++) {
            asks(rows[place], system, "form", place);
        }
        asks("throws." + INDEX, system, "form", rows.length);
    }

    /** BASIS of the SYSTEM has just these rows. */
    static void askBasis(Recipe system, String... rows) {
        asks(rows.length, system, "ofSystem", 3);
        for (int place = 0; place < rows.length; place++) {
            asks(rows[place], system, "basis", place);
        }
        asks("throws." + INDEX, system, "basis", rows.length);
    }
}
