import java.util.Arrays;

/** All small cases of a kind, one by one, on a Diophantdesk and on the Reference: all answers are to be alike. */
public final class SmallWorldsTest {
    private static int asked;
    private static int wrong;

    private SmallWorldsTest() {
    }

    private static void ask(Diophantdesk desk, Reference reference, String told, String name, Object... arguments) {
        Object want = Edges.outcome(reference, name, arguments);
        Object got = Edges.outcome(desk, name, arguments);
        asked++;
        if (!want.equals(got)) {
            wrong++;
            if (wrong <= 20) {
                System.out.println(told + ": " + name + Arrays.toString(arguments) + " answered " + got + ", due is " + want);
            }
        }
    }

    private static void equations() {
        for (int a = -6; a <= 6; a++) {
            for (int b = -6; b <= 6; b++) {
                Diophantdesk desk = new Diophantdesk();
                Reference reference = new Reference();
                for (int c = -13; c <= 13; c++) {
                    String told = a + " x + " + b + " y = " + c;
                    ask(desk, reference, told, "equation", a, b, c);
                    ask(desk, reference, told, "isSolvable");
                    for (int t = -1; t <= 1; t++) {
                        ask(desk, reference, told, "along", t, false);
                        ask(desk, reference, told, "along", t, true);
                    }
                    ask(desk, reference, told, "inBox", -4, 5, -3, 6);
                    ask(desk, reference, told, "inBox", -1, 1, c, c);
                    ask(desk, reference, told, "inBox", c, c, -1, 1);
                    ask(desk, reference, told, "isSound");
                }
            }
        }
    }

    private static void congruences() {
        for (int by = 1; by <= 12; by++) {
            for (int a = -13; a <= 13; a++) {
                Diophantdesk desk = new Diophantdesk();
                Reference reference = new Reference();
                for (int c = -13; c <= 13; c++) {
                    for (int what = 0; what <= 2; what++) {
                        ask(desk, reference, "a new object", "congruent", a, c, by, what);
                    }
                }
            }
        }
    }

    /** All SYSTEMS of so many UNKNOWNS and ROWS with numbers from -most to most, or each of some of them. */
    private static void systems(int unknowns, int rows, int most, long each) {
        int numbers = rows * (unknowns + 1);
        long all = 1;
        for (int i = 0; i < numbers; i++) {
            all *= 2 * most + 1;
        }
        for (long n = 0; n < all; n += each) {
            long rest = n;
            Diophantdesk desk = new Diophantdesk();
            Reference reference = new Reference();
            StringBuilder told = new StringBuilder();
            ask(desk, reference, "a new object", "unknowns", unknowns);
            for (int i = 0; i < rows; i++) {
                int[] row = new int[5];
                for (int j = 0; j <= unknowns; j++) {
                    row[j < unknowns ? j : 4] = (int) (rest % (2 * most + 1)) - most;
                    rest /= 2 * most + 1;
                }
                told.append(Arrays.toString(row));
                ask(desk, reference, told.toString(), "row", row[0], row[1], row[2], row[3], row[4]);
            }
            askSystem(desk, reference, told.toString());
        }
    }

    private static void askSystem(Diophantdesk desk, Reference reference, String told) {
        for (int what = 2; what <= 5; what++) {
            ask(desk, reference, told, "ofSystem", what);
        }
        for (int n = 0; n <= reference.ofSystem(5); n++) {
            ask(desk, reference, told, "act", n);
        }
        for (int place = 0; place < reference.ofSystem(1); place++) {
            ask(desk, reference, told, "form", place);
        }
        for (int place = 0; place <= reference.ofSystem(3); place++) {
            ask(desk, reference, told, "basis", place);
        }
        for (String name : new String[] {"diagonal", "answer", "paper", "isSound"}) {
            ask(desk, reference, told, name);
        }
        ask(desk, reference, told, "inCube", 1);
        ask(desk, reference, told, "isMet", 1, -1, 1, 0);
    }

    /** All COINS of so many neighbouring values, at most five at once. */
    private static void coins(int low, int many) {
        for (int set = 0; set < 1 << many; set++) {
            if (Integer.bitCount(set) > 5) {
                continue;
            }
            Diophantdesk desk = new Diophantdesk();
            Reference reference = new Reference();
            String told = "";
            for (int i = 0; i < many; i++) {
                if ((set >> i & 1) == 1) {
                    told += low + i + " ";
                    ask(desk, reference, told, "coin", low + i);
                }
            }
            for (int what = 0; what <= 5; what++) {
                ask(desk, reference, told, "ofCoins", what);
            }
            for (int sum = 0; sum <= 31; sum++) {
                ask(desk, reference, told, "canPay", sum);
                ask(desk, reference, told, "ways", sum);
                ask(desk, reference, told, "fewest", sum);
                ask(desk, reference, told, "payNext", sum, true);
                ask(desk, reference, told, "payNext", sum, false);
            }
            ask(desk, reference, told, "isSound");
        }
    }

    private static void lattices() {
        for (int n = 0; n < 7 * 7 * 7 * 7; n++) {
            Diophantdesk desk = new Diophantdesk();
            Reference reference = new Reference();
            int[] arrows = {n % 7 - 3, n / 7 % 7 - 3, n / 49 % 7 - 3, n / 343 - 3};
            String told = Arrays.toString(arrows);
            ask(desk, reference, told, "lattice", arrows[0], arrows[1], arrows[2], arrows[3]);
            for (int what = 0; what <= 3; what++) {
                ask(desk, reference, told, "shortest", what);
                for (int place = 0; place < 12; place++) {
                    ask(desk, reference, told, "nearest", place % 4 - 1, place / 4 - 1, what);
                }
            }
            ask(desk, reference, told, "isSound");
        }
    }

    public static void main(String[] args) {
        equations();
        congruences();
        systems(1, 2, 3, 1);
        systems(2, 1, 3, 1);
        systems(2, 2, 2, 3);
        systems(3, 2, 1, 2);
        systems(2, 3, 1, 5);
        systems(1, 3, 2, 5);
        systems(4, 1, 1, 1);
        systems(3, 3, 1, 257);
        systems(4, 4, 1, 1743391);
        coins(1, 7);
        coins(26, 5);
        lattices();
        System.out.println(asked + " calls asked of both, " + wrong + " wrong");
        if (wrong > 0) {
            System.exit(1);
        }
    }
}
