/** Section 5 of the document and the promises 28 to 30. */
final class EdgesOfLattice extends Edges {
    private EdgesOfLattice() {
    }

    static void run() {
        in("5");
        arrows();
        telling();
        shortest();
        nearest();
    }

    private static Recipe arrows(int x1, int y1, int x2, int y2) {
        return fresh().then("lattice", x1, y1, x2, y2);
    }

    private static void askShortest(Recipe recipe, int area, int least, int second, int many) {
        asks(area, recipe, "shortest", 0);
        asks(least, recipe, "shortest", 1);
        asks(second, recipe, "shortest", 2);
        asks(many, recipe, "shortest", 3);
    }

    /** Of the place x, y: the SQUARE, then x and y of the POINT, then how many. */
    private static void askNearest(Recipe recipe, int x, int y, int... told) {
        for (int what = 0; what < told.length; what++) {
            asks(told[what], recipe, "nearest", x, y, what);
        }
    }

    private static void arrows() {
        of("Two ARROWS (x, y), at first (1, 0) and (0, 1); POINTS are all whole multiples of both put together.", () -> {
            askShortest(fresh(), 1, 1, 1, 4);
            askShortest(arrows(9, 8, 7, -6).then("undo"), 1, 1, 1, 4);
            askNearest(fresh(), 17, -29, 0, 17, -29, 1);
            // 7 0 and 3 1: multiples below 0 count, and 0 of one of them
            Recipe seven = arrows(7, 0, 3, 1);
            askNearest(seven, 7, 0, 0, 7, 0, 1);
            askNearest(seven, -3, -1, 0, -3, -1, 1);
            askNearest(seven, 0, 0, 0, 0, 0, 1);
            askNearest(seven, -1, 2, 0, -1, 2, 1);
            askNearest(seven, 2, 3, 0, 2, 3, 1);
            askNearest(seven, 998, 999, 1, 998, 1000, 1);
        });
        of("AREA: x1 * y2 - x2 * y1 without its sign.", () -> {
            asks(7, fresh(), "lattice", 7, 0, 3, 1);
            asks(7, fresh(), "lattice", 3, 1, 7, 0);
            asks(19602, fresh(), "lattice", 99, 99, -99, 99);
            asks(19602, fresh(), "lattice", 99, 99, 99, -99);
            asks(1, fresh(), "lattice", 99, 98, 98, 97);
            asks(1, fresh(), "lattice", 98, 97, 99, 98);
            asks(1, fresh(), "lattice", -1, 0, 0, 1);
        });
        of("The SQUARE of a POINT is x * x + y * y; between two places (x1 - x2) * (x1 - x2) + (y1 - y2) * (y1 - y2).", () -> {
            asks(25, arrows(3, 4, 20, 1), "shortest", 1);
            asks(25, arrows(-3, 4, 20, 1), "shortest", 1);
            asks(25, arrows(10, 0, 0, 10), "nearest", 23, 4, 0);
            asks(25, arrows(10, 0, 0, 10), "nearest", -3, -4, 0);
            asks(25, arrows(10, 0, 0, 10), "nearest", 54, 47, 0);
        });
    }

    private static void telling() {
        inPromise(28);
        of("Tells the ARROWS. - `x1`: x of the first one - `y1`: y of it - `x2`: x of the second one - `y2`: y of it", () -> {
            askShortest(arrows(2, 0, 0, 5), 10, 4, 25, 2);
            askShortest(arrows(0, 2, 5, 0), 10, 4, 25, 2);
            askNearest(arrows(2, 0, 0, 5), 2, 0, 0, 2, 0, 1);
            askNearest(arrows(2, 0, 0, 5), 0, 5, 0, 0, 5, 1);
            askNearest(arrows(2, 1, 50, 51), 50, 51, 0, 50, 51, 1);
            askNearest(arrows(2, 0, 0, 5).then("lattice", 5, 0, 0, 2), 5, 2, 0, 5, 2, 1);
            askNearest(arrows(2, 0, 0, 5).then("lattice", 5, 0, 0, 2).then("undo"), 2, 5, 0, 2, 5, 1);
        });
        of("Returns AREA.", () -> {
            asks(19602, fresh(), "lattice", -99, -99, 99, -99);
            asks(1, arrows(99, 99, -99, 99), "lattice", 0, 1, 1, 0);
        });
        of("Throws `IllegalArgumentException` if one of them is not -99 to 99", () -> {
            bounds(ARGUMENT, -99, 99, 0, "lattice", 0, 7, 3, 50);
            bounds(ARGUMENT, -99, 99, 1, "lattice", 5, 0, 50, 3);
            bounds(ARGUMENT, -99, 99, 2, "lattice", 5, 50, 0, 3);
            bounds(ARGUMENT, -99, 99, 3, "lattice", 50, 5, 3, 0);
            // AREA 0 is named behind
            refused(ARGUMENT, fresh(), "lattice", 100, 0, 100, 0);
            refused(ARGUMENT, fresh(), "lattice", 0, 0, 0, -100);
            refused(ARGUMENT, full(), "lattice", 0, 100, 0, 0);
            // 2 ^ 16 times 2 ^ 16 is 0 for an int
            refused(ARGUMENT, full(), "lattice", 1 << 16, 0, 0, 1 << 16);
        });
        of("Throws `IllegalStateException` if AREA would be 0", () -> {
            for (Recipe recipe : new Recipe[] {fresh(), full(), halfway()}) {
                refused(STATE, recipe, "lattice", 0, 0, 0, 0);
                refused(STATE, recipe, "lattice", 0, 0, 99, -99);
                refused(STATE, recipe, "lattice", 99, -99, 0, 0);
                refused(STATE, recipe, "lattice", 99, -99, -99, 99);
                refused(STATE, recipe, "lattice", 5, 0, 7, 0);
                refused(STATE, recipe, "lattice", 0, 5, 0, -7);
                refused(STATE, recipe, "lattice", 1, 2, 2, 4);
                refused(STATE, recipe, "lattice", 7, 3, 7, 3);
                asks(1, recipe, "lattice", 99, -98, -98, 97);
            }
        });
    }

    private static void shortest() {
        inPromise(29);
        of("- `what`: 0 AREA, 1 the least SQUARE of a POINT other than (0, 0), 2 the least number for which two POINTS have SQUARES "
                + "that are no greater, and do not lie on one line through (0, 0), 3 how many POINTS have the SQUARE that 1 "
                + "tells", () -> {
            askShortest(arrows(7, 0, 3, 1), 7, 5, 10, 2);
            askShortest(arrows(99, 98, 98, 97), 1, 1, 1, 4);
            askShortest(arrows(99, 99, -99, 99), 19602, 19602, 19602, 4);
            askShortest(arrows(99, 99, 99, -98), 19503, 19405, 19602, 2);
            askShortest(arrows(2, 0, 1, 50), 100, 4, 2501, 2);
            // 2 * (1, 0) is as short as 4, but on the line of (1, 0)
            askShortest(arrows(1, 0, 0, 3), 3, 1, 9, 2);
            askShortest(arrows(1, 0, 0, 99), 99, 1, 9801, 2);
            askShortest(arrows(99, 0, 0, 1), 99, 1, 9801, 2);
            askShortest(arrows(1, 1, 1, -1), 2, 2, 2, 4);
            askShortest(arrows(1, 2, 2, -1), 5, 5, 5, 4);
            askShortest(arrows(4, 0, 2, 3), 12, 13, 13, 4);
            askShortest(arrows(4, 0, 2, 4), 16, 16, 20, 2);
            askShortest(arrows(-4, 0, -2, 4), 16, 16, 20, 2);
            askShortest(arrows(4, 0, -2, -4), 16, 16, 20, 2);
            askShortest(arrows(97, 56, 0, 1), 97, 1, 9409, 2);
            askShortest(arrows(1, 56, 0, 97), 97, 65, 146, 2);
        });
        of("Returns that.", () -> changesNothing(full(), "shortest", 2));
        of("Throws `IllegalArgumentException` if what is not 0 to 3", () -> bounds(ARGUMENT, 0, 3, 0, "shortest", 0));
    }

    private static void nearest() {
        inPromise(30);
        of("- `x`: x of a place - `y`: y of it - `what`: of all POINTS: 0 the least SQUARE between one and that place, 1 x, 2 y of "
                + "the one that has it (of several with the least x, of several of these with the least y), 3 how many have "
                + "it", () -> {
            askNearest(fresh(), 999, 999, 0, 999, 999, 1);
            askNearest(fresh(), -999, -999, 0, -999, -999, 1);
            askNearest(fresh(), 999, -999, 0, 999, -999, 1);
            askNearest(arrows(7, 0, 3, 1), 2, 2, 1, 2, 3, 1);
            // as near: four corners, two side by side, two one above the other
            askNearest(arrows(2, 0, 0, 2), 1, 1, 2, 0, 0, 4);
            askNearest(arrows(2, 0, 0, 2), -1, -1, 2, -2, -2, 4);
            askNearest(arrows(2, 0, 0, 2), 1, 0, 1, 0, 0, 2);
            askNearest(arrows(2, 0, 0, 2), 0, 1, 1, 0, 0, 2);
            askNearest(arrows(2, 0, 0, 2), -1, 0, 1, -2, 0, 2);
            askNearest(arrows(2, 0, 0, 2), 0, -1, 1, 0, -2, 2);
            askNearest(arrows(2, 0, 0, 2), 999, 999, 2, 998, 998, 4);
            askNearest(arrows(2, 0, 0, 2), -999, -999, 2, -1000, -1000, 4);
            // the least x counts more than the least y
            askNearest(arrows(1, 1, 1, -1), 1, 0, 1, 0, 0, 4);
            askNearest(arrows(1, 1, 1, -1), 0, 1, 1, -1, 1, 4);
            askNearest(arrows(2, 4, 6, 2), 3, 4, 1, 2, 4, 1);
            askNearest(arrows(2, -2, 20, 0), 1, -1, 2, 0, 0, 2);
            askNearest(arrows(2, 2, 20, 0), 1, 1, 2, 0, 0, 2);
            askNearest(arrows(2, -2, 20, 0), -1, 1, 2, -2, 2, 2);
            // three of them, round the middle of a circle that goes through no fourth
            askNearest(arrows(8, 0, 4, 8), 4, 3, 25, 0, 0, 3);
            askNearest(arrows(8, 0, 4, 8), 4, -3, 25, 0, 0, 3);
            // POINTS that lie beyond all places
            askNearest(arrows(99, 0, 0, 99), 999, 999, 162, 990, 990, 1);
            askNearest(arrows(97, 0, 0, 97), 999, -999, 29 * 29 * 2, 970, -970, 1);
            askNearest(arrows(77, 0, 0, 77), 999, -999, 8, 1001, -1001, 1);
            askNearest(arrows(99, 99, -99, 99), 999, 0, 81, 990, 0, 1);
        });
        of("Returns that.", () -> {
            changesNothing(full(), "nearest", 999, -999, 1);
            asks(1, fresh().then("lattice", 2, 0, 0, 2).then("undo"), "nearest", 1, 1, 1);
        });
        of("Throws `IllegalArgumentException` if x or y is not -999 to 999, or what not 0 to 3", () -> {
            bounds(ARGUMENT, -999, 999, 0, "nearest", 0, 5, 1);
            bounds(ARGUMENT, -999, 999, 1, "nearest", 5, 0, 2);
            bounds(ARGUMENT, 0, 3, 2, "nearest", 17, 29, 0);
            boundsFor(arrows(99, 99, -99, 99), ARGUMENT, -999, 999, 0, "nearest", 0, 999, 0);
        });
    }
}
