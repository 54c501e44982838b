/** Section 1 of the document and the promises 1 to 6. */
final class EdgesOfEquation extends Edges {
    private EdgesOfEquation() {
    }

    static void run() {
        told();
        first();
        promises();
        along();
        inBox();
        congruent();
    }

    /** FIRST, and what STEP puts to it. */
    private static void askFirst(Recipe told, int x, int y, int stepX, int stepY) {
        asks(true, told, "isSolvable");
        asks(x, told, "along", 0, false);
        asks(y, told, "along", 0, true);
        for (int t : new int[] {-1000, -1, 1, 1000}) {
            asks(x + t * stepX, told, "along", t, false);
            asks(y + t * stepY, told, "along", t, true);
        }
    }

    private static void told() {
        in("1");
        of("The EQUATION is A x + B y = C; all three are 0 at first.", () -> {
            for (int what = 0; what <= 2; what++) {
                asks(0, fresh(), "desk", what);
                asks(0, equation(1, 2, 3).then("undo"), "desk", what);
                asks(what + 1, equation(1, 2, 3), "desk", what);
            }
        });
        of("G is the GCD of A and B.", () -> {
            asks(0, fresh(), "desk", 3);
            asks(3, equation(6, 9, 1), "desk", 3);
            asks(3, equation(-6, 9, 2), "desk", 3);
            asks(9, equation(0, -9, 3), "desk", 3);
            asks(9, equation(9, 0, 3), "desk", 3);
            asks(0, equation(0, 0, 3), "desk", 3);
        });
        of("An ANSWER is a pair of whole numbers x, y of which it is true.", () -> {
            asks(true, equation(2, 3, 1), "isSolvable");
            asks(false, equation(2, 4, 1), "isSolvable");
            asks(false, equation(2, 0, 1), "isSolvable");
            asks(false, equation(0, 2, 1), "isSolvable");
            asks(true, equation(2, 0, -2), "isSolvable");
            asks(true, equation(0, 2, -2), "isSolvable");
            asks(false, equation(0, 0, 1), "isSolvable");
            asks(true, equation(0, 0, 0), "isSolvable");
        });
        of("STEP is (B / G, -A / G); (0, 0), if G is 0.", () -> {
            askFirst(equation(6, 10, 14), 4, -1, 5, -3);
            askFirst(equation(-6, 10, 14), 1, 2, 5, 3);
            askFirst(equation(6, -10, 14), 4, 1, -5, -3);
            askFirst(equation(-6, -10, 14), 1, -2, -5, 3);
            askFirst(equation(7, 7, 0), 0, 0, 1, -1);
            askFirst(equation(9999, -9999, 9999), 0, -1, -1, -1);
            askFirst(equation(9999, 9998, 0), 0, 0, 9998, -9999);
            askFirst(fresh(), 0, 0, 0, 0);
            askFirst(equation(0, 0, 0), 0, 0, 0, 0);
        });
    }

    private static void first() {
        of("FIRST (if there is an ANSWER): if B is not 0, the one with the least x of 0 or more;", () -> {
            // 3 x + 5 y = C: x = 0 can be told, and 4, the last one ahead of the next STEP.
            askFirst(equation(3, 5, 10), 0, 2, 5, -3);
            askFirst(equation(3, 5, -10), 0, -2, 5, -3);
            askFirst(equation(3, 5, 12), 4, 0, 5, -3);
            askFirst(equation(3, 5, -3), 4, -3, 5, -3);
            askFirst(equation(3, -5, 12), 4, 0, -5, -3);
            askFirst(equation(3, -5, 10), 0, -2, -5, -3);
            askFirst(equation(-3, -5, 3), 4, -3, -5, 3);
            askFirst(equation(7, 1, -5), 0, -5, 1, -7);
            askFirst(equation(7, -1, -5), 0, 5, -1, -7);
            askFirst(equation(0, 4, -12), 0, -3, 1, 0);
            askFirst(equation(0, -4, -12), 0, 3, -1, 0);
            askFirst(equation(0, -9999, 0), 0, 0, -1, 0);
            askFirst(equation(-1, 9999, 1), 9998, 1, 9999, 1);
            askFirst(equation(1, 9999, -999999), 9999 - 999999 % 9999, -101, 9999, -1);
        });
        of("if B is 0, and A is not, the one with y = 0;", () -> {
            askFirst(equation(4, 0, 12), 3, 0, 0, -1);
            askFirst(equation(4, 0, -12), -3, 0, 0, -1);
            askFirst(equation(-4, 0, 12), -3, 0, 0, 1);
            askFirst(equation(-4, 0, 0), 0, 0, 0, 1);
            askFirst(equation(1, 0, -999999), -999999, 0, 0, -1);
            askFirst(equation(-1, 0, -999999), 999999, 0, 0, 1);
        });
        of("if both are 0, (0, 0).", () -> {
            askFirst(equation(0, 0, 0), 0, 0, 0, 0);
            askFirst(equation(1, 2, 3).then("equation", 0, 0, 0), 0, 0, 0, 0);
        });
    }

    private static void promises() {
        inPromise(1);
        of("Creates a desk.", () -> {
            String noRow = "throws.IndexOutOfBoundsException; ";
            due("0; 0; 0; 0; 0; 0; 2; 0; " + noRow + noRow + noRow + noRow + "0 0; ; 0; -1; -1; 0; -1; -1; 1; 1; 17; "
                    + "0; 0; 3; 5; ", glance(new Diophantdesk()));
            refused(STATE, fresh(), "undo");
            // one object is not another one
            Diophantdesk one = new Diophantdesk();
            one.equation(6, 10, 14);
            one.row(1, 2, 0, 0, 3);
            one.coin(3);
            one.lattice(7, 0, 3, 1);
            one.jug(0);
            one.knock();
            due(story(new Diophantdesk()), story(fresh().made()));
        });
        inPromise(2);
        of("Tells the EQUATION.", () -> {
            for (int what = 0; what <= 2; what++) {
                asks(new int[] {-9999, 9999, -999999}[what], equation(-9999, 9999, -999999), "desk", what);
                asks(new int[] {9999, -9999, 999999}[what], equation(9999, -9999, 999999), "desk", what);
            }
        });
        of("Returns G.", () -> {
            asks(9999, fresh(), "equation", -9999, 9999, -999999);
            asks(1, fresh(), "equation", 9999, -9998, 999999);
            asks(0, fresh(), "equation", 0, 0, 999999);
        });
        of("Throws `IllegalArgumentException` if a or b is not -9999 to 9999, or c not -999999 to 999999", () -> {
            bounds(ARGUMENT, -9999, 9999, 0, "equation", 0, 4, 8);
            bounds(ARGUMENT, -9999, 9999, 1, "equation", 5, 0, 3);
            bounds(ARGUMENT, -999999, 999999, 2, "equation", 4, 6, 0);
            refused(ARGUMENT, full(), "equation", 10000, 10000, 1000000);
        });
        inPromise(3);
        of("Returns whether the EQUATION has an ANSWER.", () -> {
            asks(true, fresh(), "isSolvable");
            asks(true, equation(9999, 9998, 999999), "isSolvable");
            asks(false, equation(9999, -9999, 999998), "isSolvable");
            asks(true, equation(9999, -9999, -989901), "isSolvable");
            asks(true, equation(1, 2, 3).then("equation", 2, 4, 3).then("undo"), "isSolvable");
            changesNothing(halfway(), "isSolvable");
        });
    }

    private static void along() {
        inPromise(4);
        of("- `t`: how often STEP is put to FIRST", () -> {
            askFirst(equation(6, 10, 14), 4, -1, 5, -3);
            asks(-4996, equation(1, -5, -1), "along", 1000, false);
        });
        of("- `isY`: whether y is asked for, otherwise x", () -> {
            asks(-1, equation(6, 10, 14), "along", 0, true);
            asks(4, equation(6, 10, 14), "along", 0, false);
        });
        of("Returns that of FIRST and t times STEP.", () -> {
            asks(9998 * 1000 + 9997, equation(9999, 9998, 9997), "along", 1000, false);
            asks(-9999 * 1000 + 999999, equation(9999, 1, 999999), "along", 1000, true);
            changesNothing(full(), "along", 1000, true);
        });
        of("Throws `IllegalArgumentException` if t is not -1000 to 1000", () -> {
            boundsFor(full(), ARGUMENT, -1000, 1000, 0, "along", 0, true);
            boundsFor(fresh(), ARGUMENT, -1000, 1000, 0, "along", 0, false);
            boundsFor(equation(9999, 9998, 999999), ARGUMENT, -1000, 1000, 0, "along", 0, true);
            // the EQUATION has no ANSWER: that is named behind
            boundsFor(halfway(), ARGUMENT, -1000, 1000, 0, "along", 0, true);
        });
        of("Throws `IllegalStateException` if the EQUATION has no ANSWER", () -> {
            for (int t : new int[] {-1000, 0, 1000}) {
                refused(STATE, halfway(), "along", t, true);
                refused(STATE, equation(0, 0, 1), "along", t, false);
                refused(STATE, equation(2, 0, 1), "along", t, false);
                refused(STATE, equation(0, 2, -1), "along", t, true);
                refused(STATE, full().then("equation", 9999, -9999, 999998), "along", t, false);
            }
            asks(0, equation(2, 4, 3).then("undo"), "along", 0, false);
        });
    }

    private static void inBox() {
        inPromise(5);
        of("- `lowX`: least x - `highX`: greatest x - `lowY`: least y - `highY`: greatest y", () -> {
            // x + y = 3: each bound leaves just one, at the bound
            asks(1, equation(1, 1, 3), "inBox", 3, 1000, 0, 1000);
            asks(1, equation(1, 1, 3), "inBox", -1000, 0, -1000, 3);
            asks(1, equation(1, 1, 3), "inBox", 0, 1000, 3, 1000);
            asks(1, equation(1, 1, 3), "inBox", -1000, 3, -1000, 0);
        });
        of("Returns how many ANSWERS of the EQUATION lie there (bounds included).", () -> {
            int all = 2001 * 2001;
            asks(all, fresh(), "inBox", -1000, 1000, -1000, 1000);
            asks(1, fresh(), "inBox", 1000, 1000, -1000, -1000);
            asks(0, equation(0, 0, 1), "inBox", -1000, 1000, -1000, 1000);
            asks(0, equation(2, 4, 3), "inBox", -1000, 1000, -1000, 1000);
            asks(2001, equation(0, 1, 1000), "inBox", -1000, 1000, -1000, 1000);
            asks(0, equation(0, 1, 1001), "inBox", -1000, 1000, -1000, 1000);
            asks(2001, equation(-1, 0, 1000), "inBox", -1000, 1000, -1000, 1000);
            asks(0, equation(-1, 0, 1001), "inBox", -1000, 1000, -1000, 1000);
            asks(2001, equation(1, 1, 0), "inBox", -1000, 1000, -1000, 1000);
            asks(1, equation(1, 1, 2000), "inBox", -1000, 1000, -1000, 1000);
            asks(0, equation(1, 1, 2001), "inBox", -1000, 1000, -1000, 1000);
            asks(1, equation(1, -1, -2000), "inBox", -1000, 1000, -1000, 1000);
            asks(400, equation(6, 10, 14), "inBox", -1000, 1000, -1000, 1000);
            asks(1, equation(6, 10, 14), "inBox", 4, 4, -1, -1);
            asks(0, equation(6, 10, 14), "inBox", 5, 8, -1000, 1000);
            asks(2, equation(6, 10, 14), "inBox", 4, 9, -4, -1);
            asks(1, equation(6, 10, 14), "inBox", 4, 9, -3, -1);
            asks(1, equation(6, 10, 14), "inBox", 4, 8, -4, -1);
            asks(1, equation(6, 10, 14), "inBox", 5, 9, -4, -1);
            asks(1, equation(6, 10, 14), "inBox", 4, 9, -4, -2);
            changesNothing(full(), "inBox", -1000, 1000, -1000, 1000);
        });
        of("Throws `IllegalArgumentException` if one of them is not -1000 to 1000, or lowX is above highX, or lowY above highY",
                () -> {
            bounds(ARGUMENT, -1000, 1000, 0, "inBox", 0, 1000, -1000, 1000);
            bounds(ARGUMENT, -1000, 1000, 1, "inBox", -1000, 0, -1000, 1000);
            bounds(ARGUMENT, -1000, 1000, 2, "inBox", -1000, 1000, 0, 1000);
            bounds(ARGUMENT, -1000, 1000, 3, "inBox", -1000, 1000, -1000, 0);
            for (Recipe recipe : new Recipe[] {fresh(), full(), halfway(), equation(0, 0, 1)}) {
                for (int at : new int[] {-1000, -1, 0, 999}) {
                    taken(recipe, "inBox", at, at, -at, -at);
                    refused(ARGUMENT, recipe, "inBox", at + 1, at, -1000, 1000);
                    refused(ARGUMENT, recipe, "inBox", -1000, 1000, at + 1, at);
                    refused(ARGUMENT, recipe, "inBox", at + 1, at, at + 1, at);
                }
                refused(ARGUMENT, recipe, "inBox", 1000, -1000, -1000, 1000);
                refused(ARGUMENT, recipe, "inBox", -1000, 1000, 1000, -1000);
            }
        });
    }

    private static void congruent() {
        inPromise(6);
        of("- `a`: a factor - `c`: a number - `by`: a divisor", () -> {
            // 3 x - 5 is a multiple of 7 for 4
            asks(4, fresh(), "congruent", 3, 5, 7, 1);
            asks(0, fresh(), "congruent", 5, 0, 7, 1);
            asks(3, fresh(), "congruent", -3, 5, 7, 1);
            asks(3, fresh(), "congruent", 3, -5, 7, 1);
            asks(4, fresh(), "congruent", -3, -5, 7, 1);
        });
        of("- `what`: 0 how many x of 0 to by - 1 there are for which by divides a * x - c, 1 the least of them, 2 the "
                + "greatest (1 and 2: NONE without)", () -> {
            int[][] told = {
                // a, c, by, and what is told of 0, 1, 2
                {0, 0, 1, 1, 0, 0}, {9999, -9999, 1, 1, 0, 0}, {0, 0, 9999, 9999, 0, 9998}, {0, 1, 9999, 0, -1, -1},
                {0, 9999, 9999, 9999, 0, 9998}, {0, 9998, 9999, 0, -1, -1}, {1, 9998, 9999, 1, 9998, 9998},
                {-1, 1, 9999, 1, 9998, 9998}, {1, -1, 9999, 1, 9998, 9998}, {2, 0, 4, 2, 0, 2}, {2, 2, 4, 2, 1, 3},
                {2, 1, 4, 0, -1, -1}, {6, 14, 10, 2, 4, 9}, {-6, 14, 10, 2, 1, 6}, {6, -14, 10, 2, 1, 6},
                {10, -5, 5, 5, 0, 4}, {3333, 3333, 9999, 3333, 1, 9997}, {9999, 1, 9998, 1, 1, 1},
                {-9999, 9999, 9998, 1, 9997, 9997}, {1, 9999, 2, 1, 1, 1},
            };
            for (int[] c : told) {
                for (int what = 0; what <= 2; what++) {
                    asks(c[3 + what], fresh(), "congruent", c[0], c[1], c[2], what);
                }
            }
        });
        of("Returns that.", () -> changesNothing(full(), "congruent", 6, 14, 10, 2));
        of("Throws `IllegalArgumentException` if a or c is not -9999 to 9999, by not 1 to 9999, or what not 0 to 2", () -> {
            bounds(ARGUMENT, -9999, 9999, 0, "congruent", 0, 4, 6, 1);
            bounds(ARGUMENT, -9999, 9999, 1, "congruent", 3, 0, 7, 2);
            bounds(ARGUMENT, 1, 9999, 2, "congruent", 4, 8, 0, 0);
            bounds(ARGUMENT, 0, 2, 3, "congruent", 4, 8, 6, 0);
            refused(ARGUMENT, fresh(), "congruent", 1, 1, 0, 0);
            refused(ARGUMENT, fresh(), "congruent", 0, 0, 0, 3);
        });
    }
}
