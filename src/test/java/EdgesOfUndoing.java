import java.math.BigInteger;
import java.util.ArrayList;
import java.util.List;

/** Section 7 of the document and the promises 36 to 40. */
final class EdgesOfUndoing extends Edges {
    private EdgesOfUndoing() {
    }

    static void run() {
        in("7");
        changes();
        depth();
        exceptions();
        promises();
        soundAndDigest();
    }

    /** A call of each kind of CHANGE, behind which something is otherwise. */
    private static Object[][] allChanges() {
        return new Object[][] {{"equation", 7, 8, 9}, {"unknowns", 1}, {"row", 5, 5, 5, 5, 5}, {"changeRow", 0, 0, 9},
            {"dropRow", 0}, {"coin", 11}, {"uncoin", 6}, {"lattice", 5, 5, -5, 6}, {"jugs", 11, 12}, {"jug", 1}};
    }

    /** An object on which all of these are taken. */
    private static Recipe ready() {
        return fresh().then("unknowns", 3).then("row", 1, 2, 3, 4, 5).then("coin", 6).then("jugs", 9, 8);
    }

    private static Recipe then(Recipe recipe, Object[] call) {
        Object[] arguments = new Object[call.length - 1];
        System.arraycopy(call, 1, arguments, 0, arguments.length);
        return recipe.then((String) call[0], arguments);
    }

    private static Recipe equations(int from, int to) {
        Recipe recipe = fresh();
        for (int a = from; a <= to; a++) {
            recipe = recipe.then("equation", a, 0, 0);
        }
        return recipe;
    }

    private static void changes() {
        of("Each of equation, unknowns, row, changeRow, dropRow, coin, uncoin, lattice, jugs, jug that is not refused is a CHANGE "
                + "(also if nothing is otherwise behind it).", () -> {
            for (Object[] call : allChanges()) {
                Recipe changed = then(ready(), call);
                asks(5, changed, "desk", 4);
                asks(4, changed, "undo");
                due(story(ready().made()), story(changed.then("undo").made()));
                due(false, glance(ready().made()).equals(glance(changed.made())));
            }
            Object[][] same = {{"equation", 0, 0, 0}, {"unknowns", 2}, {"lattice", 1, 0, 0, 1}, {"jugs", 3, 5}, {"jug", 2},
                {"jug", 3}, {"jug", 4}, {"jug", 5}};
            for (Object[] call : same) {
                asks(1, then(fresh(), call), "desk", 4);
                asks(2, then(then(fresh(), call), call), "desk", 4);
                asks(0, then(fresh(), call), "undo");
            }
            asks(5, ready().then("changeRow", 0, 0, 1), "desk", 4);
            asks(5, ready().then("changeRow", 0, 3, 5), "desk", 4);
            asks(7, ready().then("jug", 0).then("jug", 0).then("jug", 3), "desk", 4);
            // a refused one is none
            for (Object[] call : new Object[][] {{"equation", 10000, 0, 0}, {"unknowns", 5}, {"row", 21, 0, 0, 0, 0},
                {"changeRow", 0, 4, 0}, {"dropRow", 1}, {"coin", 6}, {"uncoin", 7}, {"lattice", 1, 1, 1, 1}, {"jugs", 0, 1},
                {"jug", 6}}) {
                Object[] arguments = new Object[call.length - 1];
                System.arraycopy(call, 1, arguments, 0, arguments.length);
                Diophantdesk d = ready().made();
                due(true, ((String) outcome(d, (String) call[0], arguments)).startsWith("throws."));
                due(4, d.desk(4));
                due(story(ready().made()), story(d));
            }
            // nor is one of the other calls
            Object[][] others = {{"isSolvable"}, {"along", 0, true}, {"inBox", 0, 1, 0, 1}, {"congruent", 1, 1, 1, 0},
                {"ofSystem", 0}, {"form", 0}, {"act", 0}, {"diagonal"}, {"answer"}, {"basis", 0}, {"inCube", 1}, {"paper"},
                {"isMet", 1, 1, 1, 1}, {"canPay", 1}, {"payNext", 1, true}, {"payable", 0, 1}, {"payable", 1, 0},
                {"ofCoins", 0}, {"ways", 1}, {"fewest", 1}, {"shortest", 1}, {"nearest", 1, 1, 1}, {"inJug", true, true},
                {"left", 1}, {"next", 1}, {"desk", 4}, {"isSound"}, {"digest"}};
            Recipe recipe = ready().then("row", 1, 2, 3, 4, 5);
            for (Object[] call : others) {
                due(story(recipe.made()), story(then(recipe, call).made()));
                asks(5, then(recipe, call), "desk", 4);
            }
            asks(5, recipe.then("knock"), "desk", 4);
        });
    }

    private static void depth() {
        of("At most 8 can be undone; with a ninth the oldest is forgotten for good.", () -> {
            for (int many = 0; many <= 18; many++) {
                Recipe recipe = equations(1, many);
                int left = Math.min(many, 8);
                asks(left, recipe, "desk", 4);
                for (int undone = 1; undone <= left; undone++) {
                    asks(left - undone, recipe, "undo");
                    recipe = recipe.then("undo");
                    asks(left - undone, recipe, "desk", 4);
                    asks(many - undone, recipe, "desk", 0);
                }
                refused(STATE, recipe, "undo");
                // what is told now can be undone, and no more
                asks(0, recipe.then("equation", 99, 0, 0), "undo");
                asks(Math.max(0, many - 8), recipe.then("equation", 99, 0, 0).then("undo"), "desk", 0);
                refused(STATE, recipe.then("equation", 99, 0, 0).then("undo"), "undo");
            }
            // a ninth of each kind
            for (Object[] call : allChanges()) {
                Recipe eight = ready().then("knock").then("jug", 0).then("jug", 4).then("jug", 1).then("jug", 5);
                asks(8, eight, "desk", 4);
                asks(8, then(eight, call), "desk", 4);
                asks(7, then(eight, call), "undo");
                Recipe undone = then(eight, call);
                for (int i = 0; i < 8; i++) {
                    undone = undone.then("undo");
                }
                // the oldest one told that there are 3 UNKNOWNS: that stays
                asks(3, undone, "ofSystem", 0);
                asks(0, undone, "ofSystem", 1);
                asks(0, undone, "ofCoins", 0);
                refused(STATE, undone, "undo");
            }
        });
        of("To undo: EQUATION, SYSTEM, COINS, ARROWS and JUGS are as they were ahead of the last CHANGE that was not undone.", () -> {
            Recipe one = equations(1, 2).then("undo").then("equation", 3, 0, 0);
            asks(3, one, "desk", 0);
            asks(1, one.then("undo"), "desk", 0);
            asks(0, one.then("undo").then("undo"), "desk", 0);
            refused(STATE, one.then("undo").then("undo"), "undo");
            // three of eight undone, three others told, and a ninth
            Recipe others = equations(1, 8).then("undo").then("undo").then("undo").then("equation", 21, 0, 0)
                    .then("equation", 22, 0, 0).then("equation", 23, 0, 0);
            asks(8, others, "desk", 4);
            Recipe ninth = others.then("equation", 24, 0, 0);
            asks(8, ninth, "desk", 4);
            for (int a : new int[] {23, 22, 21, 5, 4, 3, 2, 1}) {
                ninth = ninth.then("undo");
                asks(a, ninth, "desk", 0);
            }
            refused(STATE, ninth, "undo");
            // all of it, each by one CHANGE, and all numbers of it
            Recipe all = fresh().then("equation", 6, 10, 14).then("coin", 7).then("lattice", 7, 0, 3, 1).then("jugs", 7, 4)
                    .then("jug", 0).then("unknowns", 4).then("row", 1, 2, 3, 4, 5);
            List<String> ahead = new ArrayList<>();
            Recipe told = fresh();
            for (Object[] call : all.calls) {
                ahead.add(glance(told.made()) + told.made().digest());
                told = then(told, call);
            }
            Diophantdesk d = all.made();
            for (int i = ahead.size() - 1; i >= 0; i--) {
                due(i, d.undo());
                due(i, d.desk(4));
                due(ahead.get(i), glance(d) + d.digest());
            }
            // a ROW that was dropped, changed, or went with the UNKNOWNS is back with all its numbers
            Recipe rows = fresh().then("unknowns", 4).then("row", 1, 2, 3, 4, 5).then("row", 6, 7, 8, 9, 10);
            for (Object[] call : new Object[][] {{"dropRow", 0}, {"dropRow", 1}, {"unknowns", 1}, {"changeRow", 1, 4, 0}}) {
                Recipe back = then(rows, call).then("row", 20, 20, 20, 20, 20).then("undo").then("undo");
                for (int column = 0; column <= 4; column++) {
                    asks(column + 1, back, "changeRow", 0, column, 0);
                    asks(column + 6, back, "changeRow", 1, column, 0);
                }
                asks(2, back, "ofSystem", 1);
            }
            // how often one knocked is none of these
            asks(2, equations(1, 2).then("knock").then("knock").then("undo"), "desk", 5);
        });
    }

    private static void exceptions() {
        of("A method that throws an exception changes nothing.", () -> {
            for (Recipe recipe : new Recipe[] {fresh(), full(), halfway(), ready()}) {
                refused(ARGUMENT, recipe, "equation", -10000, 5, 5);
                refused(ARGUMENT, recipe, "unknowns", 0);
                refused(ARGUMENT, recipe, "row", 1, 2, 3, 4, 1000);
                refused(INDEX, recipe, "changeRow", 4, 0, 0);
                refused(INDEX, recipe, "dropRow", 4);
                refused(ARGUMENT, recipe, "coin", 31);
                refused(ARGUMENT, recipe, "uncoin", 31);
                refused(STATE, recipe, "lattice", 9, 6, 6, 4);
                refused(ARGUMENT, recipe, "jugs", 30, 31);
                refused(ARGUMENT, recipe, "jug", 6);
                refused(ARGUMENT, recipe, "desk", 6);
                // not even how often one knocked
                Diophantdesk d = recipe.made();
                int knocks = d.desk(5);
                outcome(d, "desk", -1);
                outcome(d, "jug", -1);
                due(knocks, d.desk(5));
                due(knocks + 1, d.knock());
            }
            refused(ARGUMENT, ready(), "changeRow", 0, 4, 0);
            refused(ARGUMENT, ready(), "changeRow", 0, 0, 21);
            refused(STATE, full(), "row", 0, 0, 0, 0, 0);
            refused(STATE, full(), "coin", 3);
            refused(STATE, full(), "uncoin", 3);
        });
        of("If several exceptions apply, the one that is named first is thrown.", () -> {
            refused(ARGUMENT, halfway(), "along", 1001, true);
            refused(ARGUMENT, full(), "row", -21, 0, 0, 0, 0);
            refused(INDEX, full(), "changeRow", 4, 5, 1000);
            refused(INDEX, full(), "changeRow", -1, -1, -1000);
            refused(ARGUMENT, full(), "coin", 31);
            refused(ARGUMENT, fresh(), "uncoin", 0);
            refused(ARGUMENT, full(), "lattice", 0, 0, 0, 100);
        });
        of("The constructor and the methods follow, a promise each: the signature, then what it does.", () -> {
            int many = Diophantdesk.class.getConstructors().length;
            for (java.lang.reflect.Method method : Diophantdesk.class.getDeclaredMethods()) {
                many += java.lang.reflect.Modifier.isPublic(method.getModifiers()) ? 1 : 0;
            }
            due(40, many);
        });
    }

    private static void promises() {
        inPromise(36);
        of("Undoes.", () -> {
            for (Recipe recipe : new Recipe[] {fresh(), ready(), halfway()}) {
                for (Object[] call : new Object[][] {{"equation", 7, 8, 9}, {"unknowns", 4}, {"coin", 13}, {"jug", 5}}) {
                    due(glance(recipe.made()), glance(then(recipe, call).then("undo").made()));
                }
            }
        });
        of("Returns how many can be undone still.", () -> {
            asks(0, equations(1, 1), "undo");
            asks(6, equations(1, 7), "undo");
            asks(7, equations(1, 8), "undo");
            asks(7, equations(1, 9), "undo");
            asks(7, equations(1, 9).then("undo").then("equation", 0, 0, 0), "undo");
        });
        of("Throws `IllegalStateException` if there is nothing to undo", () -> {
            refused(STATE, fresh(), "undo");
            refused(STATE, fresh().then("knock"), "undo");
            refused(STATE, equations(1, 1).then("undo"), "undo");
            Diophantdesk d = equations(1, 1).made();
            outcome(d, "equation", 10000, 0, 0);
            due(0, d.undo());
            for (int i = 0; i < 3; i++) {
                due("throws." + STATE, outcome(d, "undo"));
            }
            due(1, d.knock());
        });
        inPromise(37);
        of("Knocks.", () -> asks(1, fresh().then("knock"), "desk", 5));
        of("Returns how often one knocked, with this.", () -> {
            Diophantdesk d = new Diophantdesk();
            for (int many = 1; many <= 20; many++) {
                due(many, d.knock());
                d.jug(many % 6);
                d.undo();
                outcome(d, "undo");
                due(many, d.desk(5));
            }
            asks(1, fresh(), "knock");
            asks(2, full(), "knock");
        });
        inPromise(38);
        of("- `what`: 0 A, 1 B, 2 C, 3 G, 4 how many CHANGES can be undone, 5 how often one knocked", () -> {
            int[] told = {-6, 10, -999999, 2, 1, 2};
            for (int what = 0; what <= 5; what++) {
                asks(0, fresh(), "desk", what);
                asks(told[what], equation(-6, 10, -999999).then("knock").then("knock"), "desk", what);
            }
        });
        of("Returns that.", () -> changesNothing(full(), "desk", 5));
        of("Throws `IllegalArgumentException` if what is not 0 to 5", () -> bounds(ARGUMENT, 0, 5, 0, "desk", 0));
    }

    private static void askSound(Recipe... recipes) {
        for (Recipe recipe : recipes) {
            asks(true, recipe, "isSound");
            changesNothing(recipe, "isSound");
        }
    }

    private static void soundAndDigest() {
        inPromise(39);
        of("Returns whether all of this is so: the EQUATION is true of along() with t from -3 to 3, if it has an ANSWER, and if "
                + "not, G does not divide C;", () -> askSound(fresh(), equation(0, 0, 1), equation(0, 0, 0), equation(2, 4, 3),
                equation(2, 4, 6), equation(9999, 9998, 999999), equation(-9999, 9999, -999999), equation(-9999, 9999, 9999),
                equation(4, 0, 8), equation(4, 0, 9), equation(0, -4, 8), equation(0, -4, 9)));
        of("the SYSTEM has an ANSWER that is met, and each row of BASIS makes all left sides 0, or the fractions of PAPER, each "
                + "times its ROW and added up, are whole for each UNKNOWN and not for the RIGHT sides;", () -> askSound(
                system(1), system(4), system(1, row(0, 1)), system(1, row(0, 0)), system(1, row(20, 999)), system(1, row(1, 999)),
                system(2, row(1, 2, 3), row(2, 4, 7)), system(2, row(1, 2, 3), row(2, 4, 6)), full(), halfway(),
                system(3, row(2, 0, 0, 2), row(1, 3, 0, 4), row(1, 1, 5, 3)),
                system(4, row(17, 19, -20, 3, 999), row(19, -20, -20, 1, -999), row(-19, -17, -19, 0, 999))));
        of("the numbers of the DIAGONAL multiplied up to the k-th one are the GCD of all k by k minors, and there are RANK many;",
                () -> askSound(system(4, row(20, 20, 20, 20, 0), row(20, -20, 20, -20, 0), row(20, 20, -20, -20, 0),
                row(20, -20, -20, 20, 0)), system(2, row(0, 0, 5)), system(3, row(2, 4, 4, 0), row(-6, 6, 12, 0),
                row(10, -4, -16, 0)), system(1, row(0, 0), row(0, 0), row(3, 0), row(6, 0)),
                // the RANK falls
                system(2, row(2, 3, 5), row(0, 7, 7)).then("changeRow", 1, 1, 0),
                system(2, row(2, 3, 5), row(0, 7, 7)).then("dropRow", 0), system(2, row(2, 3, 5), row(0, 7, 7)).then("undo"),
                system(4, row(2, 3, 5, 7, 1)).then("row", 1, 1, 0, 0, 0).then("unknowns", 4),
                system(2, row(2, 3, 5), row(0, 7, 7)).then("unknowns", 1)));
        of("with just two COINS whose GCD is 1 ofCoins() 4 is a * b - a - b, and ofCoins() 5 half of all sums from 0 to it;", () -> {
            askSound(coins(), coins(1), coins(30), coins(1, 2), coins(1, 30), coins(29, 30), coins(2, 4), coins(2, 3),
                    coins(6, 10, 15), coins(2, 3, 4), coins(1, 2, 3, 4, 5));
            asks(-1, coins(1, 2), "ofCoins", 4);
            asks(0, coins(1, 2), "ofCoins", 5);
        });
        of("the least SQUARE of a POINT, times 3, is no more than 4 times AREA;", () -> askSound(
                fresh().then("lattice", 99, 99, -99, 99), fresh().then("lattice", 4, 0, 2, 3),
                fresh().then("lattice", 1, 56, 0, 97), fresh().then("lattice", 99, 98, 98, 97),
                fresh().then("lattice", -8, 0, 4, -7)));
        of("for each goal of 0 to 30 that left() reaches, the GCD of both SIZES divides it.", () -> askSound(
                fresh().then("jugs", 1, 1), fresh().then("jugs", 30, 30), fresh().then("jugs", 6, 9).then("jug", 1).then("jug", 5),
                fresh().then("jugs", 29, 30), fresh().then("jugs", 24, 30).then("jug", 0)));
        inPromise(40);
        ofDigest();
    }

    private static void ofDigest() {
        of("Computes a checksum. A number d starts with 4911; then d becomes d * 31 + v, which wraps around as a 64-bit integer, for "
                + "each v in this order:", () -> {
            // 4911 times 31 ^ 11 is the first beyond 64 bits: so each digest wraps around, to a number below 0 as well
            boolean isAnyBelow = false;
            boolean isAnyAbove = false;
            for (int a = 0; a < 12; a++) {
                Recipe recipe = equation(a, 5, 7);
                Diophantdesk asked = recipe.made();
                BigInteger whole = sumOf(termsOf(asked));
                due(true, whole.bitLength() > 64);
                long digest = recipe.made().digest();
                due(whole.longValue(), digest);
                isAnyBelow |= digest < 0;
                isAnyAbove |= digest > 0;
            }
            due(true, isAnyBelow && isAnyAbove);
            // the new object, term by term
            List<Long> terms = new ArrayList<>();
            for (long term : new long[] {0, 0, 0, 0, 0, 0, 1, 0, 0, 0, 0, 0, 0, 101 * 81, 97, 0, 96, 2, 0, 0, 2, -1, 0, 0, 3, 0, 3, 3,
                25, 0, -1, -1, 0, -1, -1, 0, -1, 1, 1, 1, 1, 4, 0, 17, 29, 1, 0, 3, 0, 5,
                0, -1, 4, 0, 2, 1, 1, 0, 6, 1, 1, 1}) {
                terms.add(term);
            }
            for (int goal = 6; goal <= 30; goal++) {
                terms.add(-1L);
                terms.add(-1L);
            }
            terms.add(1L);
            due(sumOf(terms).longValue(), new Diophantdesk().digest());
        });
        of("desk() of 0 to 5; 1 if isSolvable(), otherwise 0; with an ANSWER along() of -1, 0 and 1, x and then y of each; inBox() of "
                + "-50, 50, -40, 40; congruent() of A, B, 97 and 0 to 2;", () -> askDigest(equation(6, 10, 14), equation(6, 10, 15),
                equation(0, 0, 1), equation(97, 97, 0), equation(0, 97, 97), equation(97, 1, 5), equation(1, 1, 90),
                equation(1, 1, 91), equation(-9999, 9998, 999999), equation(9999, -9999, 999998),
                equation(1, 2, 3).then("knock").then("undo")));
        of("ofSystem() of 0 to 5; ROW by ROW how many characters form() has (each \" \" is one, too); ACT by ACT how many characters "
                + "act() has; how many characters each of diagonal(), answer() and paper() has; row by row of BASIS how many "
                + "characters basis() has; inCube() of 2;", () -> askDigest(system(1), system(4), system(4, row(0, 0, 0, 0, 1)),
                system(2, row(1, 2, 3), row(2, 4, 7), row(-3, 0, -99)), system(1, row(-10, 0), row(20, 999)),
                system(3, row(2, 4, 4, 6), row(-6, 6, 12, 6)), system(4, row(1, 1, 1, 1, 8)), system(4, row(1, 1, 1, 1, -9)),
                system(3, row(17, 19, -20, 999), row(19, -20, -20, -999), row(-19, -17, -19, 999), row(-19, 20, -19, -999)),
                system(4, row(6, -14, 17, 17, -999), row(16, -14, -3, 16, 999), row(9, 0, -18, -1, -999),
                        row(10, -15, 11, -20, 999))));
        of("ofCoins() of 0 to 5; ways() of 100, fewest() of 97, payable() of 0 and 50;", () -> askDigest(coins(1), coins(30),
                coins(1, 2, 3, 4, 5), coins(3, 5), coins(97 % 30, 25), coins(6, 10, 15), coins(29, 30, 1).then("uncoin", 1)));
        of("shortest() of 0 to 3; nearest() of 17, 29 and 0 to 3;", () -> askDigest(fresh().then("lattice", 7, 0, 3, 1),
                fresh().then("lattice", 99, 98, 98, 97), fresh().then("lattice", 2, 0, 0, 2), fresh().then("lattice", 34, 0, 0, 58),
                fresh().then("lattice", 99, 99, 99, -99)));
        of("inJug() of the first, then of the second, each as it is and then its SIZE; goal by goal from 0 to 30 left() and next();", () ->
                askDigest(fresh().then("jugs", 30, 29).then("jug", 0).then("jug", 4), fresh().then("jugs", 1, 30).then("jug", 1),
                fresh().then("jugs", 30, 30), fresh().then("jugs", 6, 9).then("jug", 1).then("jug", 5)));
        of("1 if isSound(), otherwise 0.", () -> askDigest(fresh(), full(), halfway(), ready()));
        of("Returns d.", () -> {
            changesNothing(full(), "digest");
            Diophantdesk d = ready().made();
            long digest = d.digest();
            due(digest, d.digest());
            d.jug(2);
            due(false, digest == d.digest());
            d.undo();
            due(digest, d.digest());
            d.knock();
            due(false, digest == d.digest());
        });
    }

    private static void askDigest(Recipe... recipes) {
        for (Recipe recipe : recipes) {
            asks(sumOf(termsOf(recipe.made())).longValue(), recipe, "digest");
        }
    }

    private static BigInteger sumOf(List<Long> terms) {
        BigInteger d = BigInteger.valueOf(4911);
        for (long v : terms) {
            d = d.multiply(BigInteger.valueOf(31)).add(BigInteger.valueOf(v));
        }
        return d;
    }

    /** What promise 40 names, asked by calls of the face. */
    private static List<Long> termsOf(Diophantdesk d) {
        List<Long> v = new ArrayList<>();
        for (int what = 0; what <= 5; what++) {
            v.add((long) d.desk(what));
        }
        v.add(d.isSolvable() ? 1L : 0L);
        for (int t = -1; t <= 1 && d.isSolvable(); t++) {
            v.add((long) d.along(t, false));
            v.add((long) d.along(t, true));
        }
        v.add((long) d.inBox(-50, 50, -40, 40));
        for (int what = 0; what <= 2; what++) {
            v.add((long) d.congruent(d.desk(0), d.desk(1), 97, what));
        }
        for (int what = 0; what <= 5; what++) {
            v.add((long) d.ofSystem(what));
        }
        for (int place = 0; place < d.ofSystem(1); place++) {
            v.add((long) d.form(place).length());
        }
        for (int n = 0; n < d.ofSystem(5); n++) {
            v.add((long) d.act(n).length());
        }
        v.add((long) d.diagonal().length());
        v.add((long) d.answer().length());
        v.add((long) d.paper().length());
        for (int place = 0; place < d.ofSystem(3); place++) {
            v.add((long) d.basis(place).length());
        }
        v.add((long) d.inCube(2));
        for (int what = 0; what <= 5; what++) {
            v.add((long) d.ofCoins(what));
        }
        v.add((long) d.ways(100));
        v.add((long) d.fewest(97));
        v.add((long) d.payable(0, 50));
        for (int what = 0; what <= 3; what++) {
            v.add((long) d.shortest(what));
        }
        for (int what = 0; what <= 3; what++) {
            v.add((long) d.nearest(17, 29, what));
        }
        for (int i = 0; i < 4; i++) {
            v.add((long) d.inJug(i > 1, i % 2 == 1));
        }
        for (int goal = 0; goal <= 30; goal++) {
            v.add((long) d.left(goal));
            v.add((long) d.next(goal));
        }
        v.add(d.isSound() ? 1L : 0L);
        return v;
    }
}
