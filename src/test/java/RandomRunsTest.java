import java.lang.reflect.InvocationTargetException;
import java.lang.reflect.Method;
import java.util.ArrayList;
import java.util.Arrays;
import java.util.Comparator;
import java.util.List;
import java.util.Random;

/** Runs of calls, the same in each run of this test, on a Diophantdesk and on the Reference: all answers are to be alike. */
public final class RandomRunsTest {
    /** What numbers a method lets, two for each int that it takes. */
    private static int[] bounds(String name) {
        return switch (name) {
            case "equation" -> new int[] {-9999, 9999, -9999, 9999, -999999, 999999};
            case "along" -> new int[] {-1000, 1000};
            case "inBox" -> new int[] {-1000, 1000, -1000, 1000, -1000, 1000, -1000, 1000};
            case "congruent" -> new int[] {-9999, 9999, -9999, 9999, 1, 9999, 0, 2};
            case "unknowns" -> new int[] {1, 4};
            case "row" -> new int[] {-20, 20, -20, 20, -20, 20, -20, 20, -999, 999};
            case "changeRow" -> new int[] {0, 3, 0, 4, -20, 20};
            case "dropRow", "form" -> new int[] {0, 3};
            case "ofSystem", "ofCoins", "desk", "jug" -> new int[] {0, 5};
            case "act" -> new int[] {0, 30};
            case "basis" -> new int[] {0, 3};
            case "inCube" -> new int[] {0, 6};
            case "isMet" -> new int[] {-9, 9, -9, 9, -9, 9, -9, 9};
            case "coin", "uncoin" -> new int[] {1, 30};
            case "canPay", "payNext", "fewest" -> new int[] {0, 900};
            case "payable" -> new int[] {0, 900, 0, 900};
            case "ways" -> new int[] {0, 300};
            case "lattice" -> new int[] {-99, 99, -99, 99, -99, 99, -99, 99};
            case "shortest" -> new int[] {0, 3};
            case "nearest" -> new int[] {-999, 999, -999, 999, 0, 3};
            case "jugs" -> new int[] {1, 30, 1, 30};
            case "left", "next" -> new int[] {0, 30};
            default -> new int[] {};
        };
    }

    private final Random random;
    private final List<Method> face = new ArrayList<>();
    private int wrong;
    private int asked;

    private RandomRunsTest(long seed) {
        random = new Random(seed);
        for (Method method : Diophantdesk.class.getDeclaredMethods()) {
            if (java.lang.reflect.Modifier.isPublic(method.getModifiers())) {
                face.add(method);
            }
        }
        face.sort(Comparator.comparing(Method::getName));
    }

    private int between(int low, int high) {
        switch (random.nextInt(16)) {
            case 0: return low;
            case 1: return high;
            case 2: return random.nextInt(8) == 0 ? low - 1 : low;
            case 3: return random.nextInt(8) == 0 ? high + 1 : high;
            case 4: case 5: case 6: return Math.min(high, Math.max(low, random.nextInt(7) - 3));
            case 7: return Math.min(high, Math.max(low, random.nextInt(61) - 30));
            default: return low + random.nextInt(high - low + 1);
        }
    }

    private Object[] arguments(Method method, int size) {
        int[] bounds = bounds(method.getName());
        Class<?>[] types = method.getParameterTypes();
        Object[] arguments = new Object[types.length];
        int at = 0;
        for (int i = 0; i < types.length; i++) {
            if (types[i] == boolean.class) {
                arguments[i] = random.nextBoolean();
            } else {
                int low = Math.max(bounds[at], -size);
                int high = Math.min(bounds[at + 1], Math.max(size, low));
                arguments[i] = random.nextInt(4) == 0 ? between(bounds[at], bounds[at + 1]) : between(low, high);
                at += 2;
            }
        }
        if (method.getName().equals("inBox") && random.nextInt(8) != 0) {
            for (int i = 0; i < 4; i += 2) {
                int one = (Integer) arguments[i];
                int other = (Integer) arguments[i + 1];
                arguments[i] = Math.min(one, other);
                arguments[i + 1] = Math.max(one, other);
            }
        }
        if (method.getName().equals("changeRow") && random.nextInt(4) == 0) {
            arguments[2] = between(-999, 999);
        }
        return arguments;
    }

    private static Object answer(Method method, Object object, Object[] arguments) {
        try {
            return method.invoke(object, arguments);
        } catch (InvocationTargetException thrown) {
            return "throws." + thrown.getCause().getClass().getSimpleName();
        } catch (IllegalAccessException never) {
            throw new IllegalStateException(never);
        }
    }

    private Object both(Diophantdesk desk, Reference reference, Method method, Object[] arguments, List<String> told)
            throws NoSuchMethodException {
        Method twin = Reference.class.getDeclaredMethod(method.getName(), method.getParameterTypes());
        Object got = answer(method, desk, arguments);
        Object due = answer(twin, reference, arguments);
        told.add(method.getName() + Arrays.toString(arguments) + " " + got);
        asked++;
        if (!due.equals(got) && wrong < 20) {
            wrong++;
            System.out.println(String.join("\n", told) + "\n  due is " + due + "\n");
        }
        return due;
    }

    private void run(int calls, int size) throws NoSuchMethodException {
        Diophantdesk desk = new Diophantdesk();
        Reference reference = new Reference();
        List<String> told = new ArrayList<>();
        for (int i = 0; i < calls; i++) {
            Method method = face.get(random.nextInt(face.size()));
            if (method.getName().equals("digest") && random.nextInt(4) != 0) {
                continue;
            }
            both(desk, reference, method, arguments(method, size), told);
        }
    }

    /** A run that tells a SYSTEM and asks all of it. */
    private void runOfSystem(int size) throws NoSuchMethodException {
        Diophantdesk desk = new Diophantdesk();
        Reference reference = new Reference();
        List<String> told = new ArrayList<>();
        both(desk, reference, method("unknowns"), new Object[] {1 + random.nextInt(4)}, told);
        int rows = random.nextInt(5);
        int[] before = new int[5];
        for (int i = 0; i < rows; i++) {
            int[] row = new int[5];
            int times = random.nextInt(5) - 2;
            boolean isLikeBefore = random.nextInt(3) == 0;
            for (int j = 0; j < 5; j++) {
                int bound = j < 4 ? 20 : 999;
                row[j] = random.nextInt(2 * Math.min(size, bound) + 1) - Math.min(size, bound);
                if (isLikeBefore) {
                    row[j] = Math.max(-bound, Math.min(bound, before[j] * times));
                }
            }
            before = row;
            both(desk, reference, method("row"), Arrays.stream(row).boxed().toArray(), told);
        }
        askAllOfSystem(desk, reference, told);
    }

    private void askAllOfSystem(Diophantdesk desk, Reference reference, List<String> told) throws NoSuchMethodException {
        for (int what = 0; what <= 5; what++) {
            both(desk, reference, method("ofSystem"), new Object[] {what}, told);
        }
        for (int n = 0; n <= reference.ofSystem(5); n++) {
            both(desk, reference, method("act"), new Object[] {n}, told);
        }
        for (int place = 0; place <= 4; place++) {
            both(desk, reference, method("form"), new Object[] {place}, told);
            both(desk, reference, method("basis"), new Object[] {place}, told);
        }
        for (String name : new String[] {"diagonal", "answer", "paper", "isSound"}) {
            both(desk, reference, method(name), new Object[] {}, told);
        }
        both(desk, reference, method("inCube"), new Object[] {random.nextInt(7)}, told);
        String answer = reference.answer();
        if (!answer.equals("none")) {
            String[] words = answer.split(" ");
            Object[] numbers = {0, 0, 0, 0};
            for (int i = 0; i < words.length; i++) {
                numbers[i] = Integer.parseInt(words[i]);
            }
            both(desk, reference, method("isMet"), numbers, told);
        }
    }

    private Method method(String name) {
        for (Method method : face) {
            if (method.getName().equals(name)) {
                return method;
            }
        }
        throw new IllegalArgumentException(name);
    }

    public static void main(String[] args) throws NoSuchMethodException {
        int times = args.length > 0 ? Integer.parseInt(args[0]) : 1;
        RandomRunsTest test = new RandomRunsTest(args.length > 1 ? Long.parseLong(args[1]) : 4911);
        int[] sizes = {1, 2, 5, 12, 30, 100, 1000, 1000000};
        for (int i = 0; i < 200 * times; i++) {
            test.run(300, sizes[i % sizes.length]);
        }
        for (int i = 0; i < 3000 * times; i++) {
            test.runOfSystem(sizes[i % sizes.length]);
        }
        System.out.println(test.asked + " calls asked of both");
        if (test.wrong > 0) {
            System.exit(1);
        }
    }
}
