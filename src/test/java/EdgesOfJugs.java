/** Section 6 of the document and the promises 31 to 35. */
final class EdgesOfJugs extends Edges {
    private EdgesOfJugs() {
    }

    static void run() {
        in("6");
        sizesAndPours();
        telling();
        leading();
    }

    private static Recipe jugs(int first, int second, int... pours) {
        Recipe recipe = fresh().then("jugs", first, second);
        for (int pour : pours) {
            recipe = recipe.then("jug", pour);
        }
        return recipe;
    }

    /** How much is in both, and their SIZES. */
    private static void askJugs(Recipe recipe, int inFirst, int inSecond, int first, int second) {
        asks(inFirst, recipe, "inJug", false, false);
        asks(inSecond, recipe, "inJug", true, false);
        asks(first, recipe, "inJug", false, true);
        asks(second, recipe, "inJug", true, true);
    }

    /** The POUR tells how much, and leaves that in both. */
    private static void askPour(Recipe recipe, int pour, int much, int inFirst, int inSecond) {
        asks(much, recipe, "jug", pour);
        asks(inFirst, recipe.then("jug", pour), "inJug", false, false);
        asks(inSecond, recipe.then("jug", pour), "inJug", true, false);
    }

    private static void sizesAndPours() {
        of("Two JUGS of a SIZE each (3 and 5 at first), both empty at first.", () -> {
            askJugs(fresh(), 0, 0, 3, 5);
            askJugs(jugs(9, 8, 0, 1).then("undo").then("undo").then("undo"), 0, 0, 3, 5);
            askPour(fresh(), 0, 3, 3, 0);
            askPour(fresh(), 1, 5, 0, 5);
            askJugs(jugs(7, 2, 0, 1).then("jugs", 5, 3), 0, 0, 5, 3);
        });
        of("POURS: 0 fill the first, 1 fill the second, 2 empty the first, 3 empty the second,", () -> {
            // from empty, in part full (2 and 4), full
            askPour(jugs(6, 9), 0, 6, 6, 0);
            askPour(jugs(6, 9), 1, 9, 0, 9);
            askPour(jugs(6, 9), 2, 0, 0, 0);
            askPour(jugs(6, 9), 3, 0, 0, 0);
            Recipe part = jugs(6, 4, 0, 4);
            askJugs(part, 2, 4, 6, 4);
            askPour(part, 0, 4, 6, 4);
            askPour(part, 1, 0, 2, 4);
            askPour(part, 2, 2, 0, 4);
            askPour(part, 3, 4, 2, 0);
            Recipe other = jugs(4, 6, 1, 5);
            askJugs(other, 4, 2, 4, 6);
            askPour(other, 0, 0, 4, 2);
            askPour(other, 1, 4, 4, 6);
            askPour(other, 2, 4, 0, 2);
            askPour(other, 3, 2, 4, 0);
            Recipe full = jugs(30, 1, 0, 1);
            askPour(full, 0, 0, 30, 1);
            askPour(full, 1, 0, 30, 1);
            askPour(full, 2, 30, 0, 1);
            askPour(full, 3, 1, 30, 0);
        });
        of("4 pour the first into the second, till that is full or the first empty, 5 the second into the first likewise.", () -> {
            // the first is empty, the second is full, both come to their end at once, neither
            askPour(jugs(6, 9), 4, 0, 0, 0);
            askPour(jugs(6, 9), 5, 0, 0, 0);
            askPour(jugs(6, 9, 0, 1), 4, 0, 6, 9);
            askPour(jugs(6, 9, 0, 1), 5, 0, 6, 9);
            askPour(jugs(6, 9, 0), 4, 6, 0, 6);
            askPour(jugs(6, 9, 1), 5, 6, 6, 3);
            askPour(jugs(9, 6, 0), 4, 6, 3, 6);
            askPour(jugs(9, 6, 1), 5, 6, 6, 0);
            askPour(jugs(7, 7, 0), 4, 7, 0, 7);
            askPour(jugs(7, 7, 1), 5, 7, 7, 0);
            askPour(jugs(6, 9, 0, 4, 0), 4, 3, 3, 9);
            askPour(jugs(9, 6, 1, 5, 1), 5, 3, 9, 3);
            askPour(jugs(6, 9, 0, 4), 5, 6, 6, 0);
            askPour(jugs(6, 9, 0, 4), 4, 0, 0, 6);
            askPour(jugs(1, 30, 0), 4, 1, 0, 1);
            askPour(jugs(1, 30, 1), 5, 1, 1, 29);
            askPour(jugs(30, 1, 0), 4, 1, 29, 1);
        });
    }

    private static void telling() {
        inPromise(31);
        of("New JUGS, both empty. - `first`: the SIZE of the first one - `second`: that of the second one", () -> {
            askJugs(jugs(1, 30), 0, 0, 1, 30);
            askJugs(jugs(30, 1), 0, 0, 30, 1);
            askJugs(jugs(30, 30, 0, 1).then("jugs", 30, 30), 0, 0, 30, 30);
            askJugs(fresh().then("jug", 0).then("jug", 1).then("jugs", 3, 5), 0, 0, 3, 5);
        });
        of("Returns GCD of both.", () -> {
            asks(1, fresh(), "jugs", 1, 1);
            asks(30, fresh(), "jugs", 30, 30);
            asks(15, fresh(), "jugs", 30, 15);
            asks(15, fresh(), "jugs", 15, 30);
            asks(1, fresh(), "jugs", 29, 30);
            asks(2, jugs(7, 7, 0), "jugs", 6, 4);
        });
        of("Throws `IllegalArgumentException` if first or second is not 1 to 30", () -> {
            bounds(ARGUMENT, 1, 30, 0, "jugs", 0, 6);
            bounds(ARGUMENT, 1, 30, 1, "jugs", 6, 0);
            refused(ARGUMENT, jugs(30, 30, 0, 1), "jugs", 0, 31);
        });
        inPromise(32);
        of("Does a POUR. - `pour`: which one", () -> {
            askJugs(jugs(3, 5, 1, 5, 2, 5, 1, 5), 3, 4, 3, 5);
            askJugs(jugs(3, 5, 0, 4, 0, 4, 3, 4, 0, 4), 0, 4, 3, 5);
        });
        of("Returns how much was filled, emptied, or poured by it.", () -> {
            Diophantdesk d = new Diophantdesk();
            int[][] told = {{0, 3}, {0, 0}, {4, 3}, {0, 3}, {4, 2}, {1, 0}, {2, 1}, {2, 0}, {5, 3}, {3, 2}, {3, 0}, {4, 3}};
            for (int[] pour : told) {
                due(pour[1], d.jug(pour[0]));
            }
        });
        of("Throws `IllegalArgumentException` if pour is not 0 to 5", () -> {
            bounds(ARGUMENT, 0, 5, 0, "jug", 0);
            boundsFor(jugs(30, 30, 0, 4, 0), ARGUMENT, 0, 5, 0, "jug", 0);
        });
        inPromise(33);
        of("- `isSecond`: which of both - `isSize`: whether the SIZE is asked for, otherwise how much is in it", () -> {
            askJugs(jugs(7, 9, 1, 5), 7, 2, 7, 9);
            askJugs(jugs(9, 7, 0, 4), 2, 7, 9, 7);
            askJugs(jugs(1, 30), 0, 0, 1, 30);
        });
        of("Returns that.", () -> changesNothing(full(), "inJug", true, false));
    }

    private static void leading() {
        inPromise(34);
        of("- `goal`: how much", () -> {
            asks(0, fresh(), "left", 0);
            asks(1, jugs(30, 29), "left", 30);
            asks(-1, jugs(29, 29), "left", 30);
        });
        of("Returns how many POURS, from now on, lead to a JUG that has just so much, the fewest (0, if one has it); NONE if none "
                + "do.", () -> {
            int[] left = {0, 4, 2, 1, 6, 1};
            for (int goal = 0; goal <= 30; goal++) {
                asks(goal <= 5 ? left[goal] : -1, fresh(), "left", goal);
                asks(goal == 0 ? 0 : goal == 30 ? 1 : -1, jugs(30, 30), "left", goal);
                asks(goal == 0 || goal == 30 ? 1 : goal == 15 ? 0 : -1, jugs(15, 30, 1, 5), "left", goal);
            }
            // one of both has it: the first alone, the second alone
            asks(0, jugs(6, 9, 0), "left", 6);
            asks(0, jugs(6, 9, 0), "left", 0);
            asks(0, jugs(6, 9, 1), "left", 9);
            asks(0, jugs(6, 9, 1, 5), "left", 3);
            // to be empty again takes a POUR, if both are filled
            asks(1, jugs(6, 9, 0, 1), "left", 0);
            asks(-1, jugs(6, 9), "left", 1);
            asks(-1, jugs(6, 9), "left", 10);
            asks(-1, jugs(1, 2), "left", 3);
            asks(2, jugs(6, 9), "left", 3);
            asks(1, jugs(6, 9, 1), "left", 3);
            // to and fro: all of 1 to 30 can be reached with 30 and 29, the farthest one by the most POURS
            asks(2, jugs(30, 29), "left", 1);
            asks(2, jugs(29, 30), "left", 1);
            asks(56, jugs(29, 30), "left", 15);
            changesNothing(full(), "left", 30);
        });
        of("Throws `IllegalArgumentException` if goal is not 0 to 30", () -> {
            bounds(ARGUMENT, 0, 30, 0, "left", 0);
            boundsFor(jugs(30, 30, 0), ARGUMENT, 0, 30, 0, "left", 0);
        });
        inPromise(35);
        of("- `goal`: how much", () -> {
            asks(-1, fresh(), "next", 0);
            asks(0, jugs(30, 29), "next", 30);
            asks(1, jugs(29, 30), "next", 30);
        });
        of("Returns the smallest POUR with which a way of so few begins; NONE if none lead there, or none is needed.", () -> {
            int[] next = {-1, 0, 1, 0, 1, 1};
            for (int goal = 0; goal <= 30; goal++) {
                asks(goal <= 5 ? next[goal] : -1, fresh(), "next", goal);
                asks(goal == 30 ? 0 : -1, jugs(30, 30), "next", goal);
            }
            // each of the POURS is the one that is told
            asks(0, jugs(6, 9), "next", 6);
            asks(1, jugs(6, 9), "next", 9);
            asks(2, jugs(6, 9, 0, 1), "next", 0);
            asks(3, jugs(3, 5, 0, 4, 0, 4), "next", 4);
            asks(4, jugs(9, 6, 0), "next", 3);
            asks(5, jugs(6, 9, 1), "next", 3);
            // of several the smallest: both can be filled, both can be emptied
            asks(0, jugs(7, 7), "next", 7);
            asks(2, jugs(7, 7, 0, 1), "next", 0);
            asks(-1, jugs(6, 9, 0), "next", 6);
            asks(-1, jugs(6, 9, 0), "next", 1);
            asks(-1, jugs(6, 9), "next", 1);
            askAllSizes();
            changesNothing(full(), "next", 30);
        });
        of("Throws `IllegalArgumentException` if goal is not 0 to 30", () -> {
            bounds(ARGUMENT, 0, 30, 0, "next", 0);
            boundsFor(jugs(30, 30, 0), ARGUMENT, 0, 30, 0, "next", 0);
        });
    }

    /** All SIZES, from empty JUGS and from others, and all goals, against the document word by word. */
    private static void askAllSizes() {
        for (int first = 1; first <= 30; first++) {
            for (int second = 1; second <= 30; second += 1 + (first + second) % 3) {
                Recipe recipe = jugs(first, second, first % 2 == 0 ? new int[] {} : new int[] {second % 6, first % 6});
                Diophantdesk desk = recipe.made();
                Reference reference = recipe.madeByReference();
                for (int goal = (first + second) % 2; goal <= 30; goal += 2) {
                    due(reference.left(goal), desk.left(goal));
                    due(reference.next(goal), desk.next(goal));
                }
            }
        }
    }
}
