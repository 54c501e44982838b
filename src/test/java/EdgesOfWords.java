/** The words ahead of the sections: what an object is used for, NONE, LET, GCD, FLOOR, the order, a ROW OF NUMBERS. */
final class EdgesOfWords extends Edges {
    private EdgesOfWords() {
    }

    static void run() {
        head();
        numbers();
        none();
        let();
        gcdAndFloor();
        order();
    }

    private static void head() {
        in("head");
        of("A desk for whole answers of whole equations. Its calls: one equation in two unknowns is told, systems of "
                + "equations are told row by row, changed and dropped, coins come and go, two arrows make a lattice, two "
                + "jugs are filled and poured; all can be undone.", () -> {
            Diophantdesk d = new Diophantdesk();
            String before = glance(d);
            due(2, d.equation(6, 10, 14));
            due(0, d.row(1, 2, 0, 0, 3));
            due(3, d.changeRow(0, 2, 4));
            due(0, d.dropRow(0));
            due(301, d.coin(3));
            due(1, d.uncoin(3));
            due(7, d.lattice(7, 0, 3, 1));
            due(3, d.jug(0));
            for (int still = 7; still >= 0; still--) {
                due(still, d.undo());
            }
            due(before, glance(d));
        });
        of("One asks for first answers, for all of them in a box, for step forms and the acts that lead there, for the "
                + "diagonal, for one answer and a basis of all others or a paper against, for sums that can be paid, short "
                + "and near points, and the fewest pours.", () -> {
            Recipe all = system(2, row(6, 10, 14), row(12, 20, 28)).then("equation", 6, 10, 14)
                    .then("coin", 3).then("coin", 5).then("lattice", 7, 0, 3, 1).then("jugs", 3, 5);
            asks(4, all, "along", 0, false);
            asks(4, all, "inBox", -10, 10, -10, 10);
            asks("6 10 14", all, "form", 0);
            asks("1-2*0", all, "act", 0);
            asks("2", all, "diagonal");
            asks("4 -1", all, "answer");
            asks("5 -3", all, "basis", 0);
            asks("-1 1/2", all.then("changeRow", 1, 2, 29), "paper");
            asks(false, all, "canPay", 7);
            asks(5, all, "shortest", 1);
            asks(1, all, "nearest", 2, 2, 0);
            asks(6, all, "left", 4);
        });
        of("An object is used for at most 512 calls after it has been made; what later calls answer is free.", () -> {
            Diophantdesk knocked = new Diophantdesk();
            Diophantdesk changed = new Diophantdesk();
            Diophantdesk asked = full().made();
            long digest = asked.digest();
            for (int call = 1; call <= 512; call++) {
                due(call, knocked.knock());
                due(call % 2 == 0 ? 6 : 2, call == 512 ? changed.desk(3) + 4 : changed.equation(6, call % 2 == 0 ? 12 : 14, call));
                if (call < 490) {
                    due(digest, asked.digest());
                }
            }
        });
    }

    private static void numbers() {
        in("0");
        of("Whole numbers, as great as they become.", () -> {
            // On the way to these forms numbers come to some 2 * 10 ^ 14.
            int[][][] great = {
                {{17, 19, -20, 999}, {19, -20, -20, -999}, {-19, -17, -19, 999}, {-19, 20, -19, -999}},
                {{-19, -20, -20, -7, 999}, {19, 18, -19, 2, 999}, {17, -19, -18, 18, -999}, {-20, 16, -20, -12, -999}},
                {{-15, -19, -17, 18, 999}, {-20, 17, -17, -18, -999}, {20, -20, -19, -20, 999}},
                {{18, -19, 18, 6, -999}, {20, 6, 14, -17, -999}, {1, 17, -13, 18, 999}, {-18, 1, -15, 13, -999}},
                {{-11, 19, -9, -19, -999}, {3, -18, -18, 14, -999}, {-19, -20, 15, 7, 999}, {-1, -4, 16, 3, -999}},
                {{3, -19, -20, 20, -528}, {5, 20, 19, 20, -445}, {-13, 20, -20, -20, 382}},
                {{-19, -20, 19, -1, -999}, {-20, 19, 20, -19, 999}, {-20, -20, -20, -1, 999}, {-20, 20, -19, -3, -999}},
                // The greatest that were found in FORM, in COLUMNS, on the way to the ANSWER, in PAPER; and the most ACTS, 52.
                {{19, 20, -17, -9, -962}, {19, 20, 20, -14, 950}, {-19, 17, -19, 1, 939}, {17, -19, -20, 9, 945}},
                {{-19, -17, -19, 19, 651}, {20, -19, 20, 17, 185}, {-19, -19, 18, -19, -915}, {-20, 20, 20, 20, -464}},
                {{-19, -17, 0, 19, 999}, {20, -20, 0, -1, 136}, {20, 19, -2, 20, -738}},
                {{-18, 17, -20, 17, 987}, {14, 19, 20, 20, 991}, {19, 19, -16, -20, 988}, {20, -20, -20, 20, 672}},
                {{12, 17, -614}, {-17, 0, -973}, {-20, 19, 62}, {-20, -13, 759}},
            };
            asks(52, system(2, great[great.length - 1]), "ofSystem", 5);
            for (int[][] rows : great) {
                Recipe system = system(rows[0].length - 1, rows);
                Reference reference = system.madeByReference();
                for (int n = 0; n <= reference.ofSystem(5); n++) {
                    asks(outcome(reference, "act", n), system, "act", n);
                }
                for (int place = 0; place < 4; place++) {
                    asks(outcome(reference, "form", place), system, "form", place);
                    asks(outcome(reference, "basis", place), system, "basis", place);
                }
                asks(reference.answer(), system, "answer");
                asks(reference.paper(), system, "paper");
                asks(reference.diagonal(), system, "diagonal");
            }
            // The determinant of these four rows is 109476414 without its sign, and all other pivots are 1.
            asks("0 0 0 109476414", system(3, great[0]), "form", 3);
            asks("0-4640269*2", system(3, great[0]), "act", 18);
            asks("-29685285 -30713256 -14844141 27972", system(4, row(6, -14, 17, 17, -999), row(16, -14, -3, 16, 999),
                    row(9, 0, -18, -1, -999), row(10, -15, 11, -20, 999)), "answer");
            // 16 * 2 ^ 28 is 2 ^ 32, which an int would take for 0
            Recipe wide = system(4, row(16, -16, 20, 20, 0));
            asks(false, wide, "isMet", 1 << 28, 0, 0, 0);
            asks(true, wide, "isMet", 1 << 28, 1 << 28, 0, 0);
            asks(false, system(2, row(2, 2, -4)), "isMet", Integer.MAX_VALUE, Integer.MAX_VALUE, 0, 0);
            asks(true, system(2, row(2, 2, -2)), "isMet", Integer.MAX_VALUE, Integer.MIN_VALUE, 0, 0);
            asks(199989, equation(9999, 1, 99999), "along", -10, true);
        });
    }

    private static void none() {
        of("NONE is -1.", () -> {
            asks(-1, fresh(), "congruent", 2, 1, 4, 1);
            asks(-1, fresh(), "congruent", 2, 1, 4, 2);
            asks(-1, fresh(), "ofSystem", 4);
            asks(-1, fresh(), "payNext", 1, true);
            for (int what : new int[] {1, 2, 4, 5}) {
                asks(-1, fresh(), "ofCoins", what);
            }
            asks(-1, fresh(), "fewest", 1);
            asks(-1, fresh(), "left", 6);
            asks(-1, fresh(), "next", 6);
        });
    }

    private static void let() {
        of("A call that is LET, but can't be done, tells -9 and changes nothing (that is no exception; if an exception "
                + "applies as well, that is thrown).", () -> {
            for (Recipe recipe : new Recipe[] {fresh(), full(), halfway()}) {
                asks(-9, recipe, "payable", 1, 0);
                asks(-9, recipe, "payable", 900, 899);
                changesNothing(recipe, "payable", 900, 0);
                refused(ARGUMENT, recipe, "payable", 901, 0);
                refused(ARGUMENT, recipe, "payable", 0, -1);
                refused(ARGUMENT, recipe, "payable", 901, -1);
            }
        });
    }

    private static void gcdAndFloor() {
        of("GCD of numbers: the greatest number that divides all of them; 0, if all are 0.", () -> {
            int[][] gcds = {{0, 0, 0}, {0, 7, 7}, {-7, 0, 7}, {6, 10, 2}, {-6, 10, 2}, {6, -10, 2}, {-6, -10, 2},
                {1, 9999, 1}, {9999, 9999, 9999}, {-9999, 9999, 9999}, {9999, 3333, 3333}, {9999, 9998, 1}, {8, 12, 4}};
            for (int[] g : gcds) {
                asks(g[2], fresh(), "equation", g[0], g[1], 0);
                asks(g[2], equation(g[0], g[1], 5), "desk", 3);
            }
            asks(0, coins(), "ofCoins", 3);
            asks(30, coins(30), "ofCoins", 3);
            asks(2, coins(6, 10), "ofCoins", 3);
            asks(1, coins(6, 10, 15), "ofCoins", 3);
            asks(6, coins(30, 24, 18, 12), "ofCoins", 3);
            asks(3, coins(30, 24, 18, 12, 3), "ofCoins", 3);
            asks(1, fresh(), "jugs", 1, 30);
            asks(30, fresh(), "jugs", 30, 30);
            asks(6, fresh(), "jugs", 24, 30);
        });
        of("FLOOR of a fraction: the greatest whole number that is no more.", () -> {
            // The row 1 is 0 3: off the row 0 it is taken FLOOR of its second number through 3.
            int[][] floors = {{-7, 2, -3}, {-6, 0, -2}, {-4, 2, -2}, {-3, 0, -1}, {-1, 2, -1}, {3, 0, 1}, {5, 2, 1}, {6, 0, 2}};
            for (int[] f : floors) {
                Recipe system = system(2, row(1, f[0], 0), row(0, 3, 0));
                String q = f[2] < 0 ? "(" + f[2] + ")" : "" + f[2];
                asks("1 " + f[1] + " 0", system, "form", 0);
                asks("0-" + q + "*1", system, "act", 0);
                asks(1, system, "ofSystem", 5);
            }
            for (int number = 0; number < 3; number++) {
                asks(0, system(2, row(1, number, 0), row(0, 3, 0)), "ofSystem", 5);
            }
            // All ANSWERS of 6 x + 10 y = RIGHT are 5, -3 apart: the one told has x of 0 to 4.
            int[][] answers = {{14, 4, -1}, {-14, 1, -2}, {0, 0, 0}, {30, 0, 3}, {-30, 0, -3}, {6, 1, 0}, {-6, 4, -3}};
            for (int[] a : answers) {
                asks(a[1] + " " + a[2], system(2, row(6, 10, a[0])), "answer");
            }
        });
    }

    private static void order() {
        of("X by X is by rising numbers.", () -> {
            askActs(system(1, row(5, 0), row(2, 0), row(7, 0)), "0-2*1", "2-3*1", "1-2*0", "2-1*0");
            askActs(system(3, row(1, 0, 5, 0), row(0, 1, 7, 0), row(0, 0, 2, 0)), "0-2*2", "1-3*2");
            askActs(system(2, row(0, -2, 0), row(-3, 0, 0)), "0~1", "!0", "!1");
        });
        of("Of several as good the one with the smallest number is taken.", () -> {
            askActs(system(1, row(5, 0), row(-5, 0), row(5, 0)), "1-(-1)*0", "2-1*0");
            askActs(system(1, row(7, 0), row(2, 0), row(-2, 0)), "0-3*1", "2-(-1)*1", "1-2*0");
            asks(0, fresh().then("jugs", 5, 5), "next", 5);
            asks(2, fresh().then("jugs", 5, 5).then("jug", 0).then("jug", 1), "next", 0);
        });
        of("A ROW OF NUMBERS is told as a text with \" \" between two.", () -> {
            asks("", fresh(), "diagonal");
            asks("", fresh(), "paper");
            asks("7", system(1, row(1, 7)), "answer");
            asks("-7", system(1, row(-1, 7)), "answer");
            asks("1 -7", system(1, row(-1, 7)), "form", 0);
            asks("0 0 0 0 0", system(4, row(0, 0, 0, 0, 0)), "form", 0);
            asks("1 0 0 0", fresh().then("unknowns", 4), "basis", 0);
            asks("1", fresh().then("unknowns", 1), "basis", 0);
            asks("-1 1/2", system(1, row(1, 3), row(2, 7)), "paper");
        });
    }
}
