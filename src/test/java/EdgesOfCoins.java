/** Section 4 of the document and the promises 20 to 27. */
final class EdgesOfCoins extends Edges {
    private EdgesOfCoins() {
    }

    static void run() {
        in("4");
        coinsAndSums();
        comingAndGoing();
        paying();
        figures();
        waysAndFewest();
    }

    private static Recipe five() {
        return coins(30, 29, 1, 2, 17);
    }

    private static void coinsAndSums() {
        of("COINS: at most 5 unlike values of 1 to 30 (none at first).", () -> {
            asks(0, fresh(), "ofCoins", 0);
            asks(5, five(), "ofCoins", 0);
            asks(1, five(), "ofCoins", 1);
            asks(30, five(), "ofCoins", 2);
            refused(STATE, five(), "coin", 3);
            refused(STATE, coins(7), "coin", 7);
            for (int value = 1; value <= 30; value++) {
                asks(value, coins(value), "ofCoins", 1);
                asks(901, fresh().then("coin", 1).then("uncoin", 1), "coin", 1);
            }
        });
        of("A sum of 0 or more can be PAID, if it is put together by COINS (each as often as one likes; 0 always can).", () -> {
            for (Recipe recipe : new Recipe[] {fresh(), coins(30), coins(7), five(), coins(1).then("uncoin", 1)}) {
                asks(true, recipe, "canPay", 0);
                asks(0, recipe, "fewest", 0);
                asks(1, recipe, "ways", 0);
            }
            asks(true, coins(29), "canPay", 870);
            asks(true, coins(30), "canPay", 900);
            asks(true, coins(29), "canPay", 899);
            asks(false, coins(29), "canPay", 898);
            asks(false, coins(30), "canPay", 29);
            asks(false, coins(30), "canPay", 31);
            asks(true, coins(30, 29), "canPay", 59);
            asks(false, coins(30, 29), "canPay", 811);
            asks(true, coins(30, 29), "canPay", 812);
            asks(false, coins(6, 10, 15), "canPay", 29);
            asks(true, coins(6, 10, 15), "canPay", 31);
        });
        of("SUMS are 0 to 900.", () -> {
            asks(901, coins(1), "payable", 0, 900);
            asks(901, fresh(), "coin", 1);
            asks(1, fresh(), "payable", 0, 900);
            asks(-1, fresh().then("coin", 29), "payNext", 900, true);
            asks(900, coins(1), "payNext", 900, true);
            asks(0, coins(1), "payNext", 0, false);
        });
    }

    private static void comingAndGoing() {
        inPromise(20);
        of("A COIN comes. - `value`: its value", () -> {
            for (int value = 1; value <= 30; value++) {
                asks(true, coins(value), "canPay", value);
                asks(value == 1, coins(value), "canPay", 1);
                asks(0, coins(value).then("undo"), "ofCoins", 0);
            }
        });
        of("Returns how many SUMS can be PAID then.", () -> {
            asks(901, fresh(), "coin", 1);
            asks(451, fresh(), "coin", 2);
            asks(31, fresh(), "coin", 30);
            asks(32, fresh(), "coin", 29);
            asks(897, coins(3), "coin", 5);
            asks(901 - 406, coins(29), "coin", 30);
            asks(901, coins(30, 29, 28, 27), "coin", 1);
        });
        of("Throws `IllegalArgumentException` if value is not 1 to 30", () -> {
            bounds(ARGUMENT, 1, 30, 0, "coin", 0);
            boundsFor(five(), ARGUMENT, 1, 30, 0, "coin", 0);
            boundsFor(coins(30, 1), ARGUMENT, 1, 30, 0, "coin", 0);
        });
        of("Throws `IllegalStateException` if there are 5, or it is there", () -> {
            asks(901, coins(30, 29, 1, 2), "coin", 17);
            for (int value = 1; value <= 30; value++) {
                refused(STATE, coins(value), "coin", value);
                refused(STATE, five(), "coin", value);
            }
            refused(STATE, five().then("uncoin", 1).then("undo"), "coin", 3);
            asks(901, five().then("uncoin", 2), "coin", 2);
            asks(31, coins(30).then("uncoin", 30), "coin", 30);
            // the other exception is named first
            refused(ARGUMENT, five(), "coin", 0);
            refused(ARGUMENT, five(), "coin", 31);
        });
        inPromise(21);
        of("A COIN goes. - `value`: its value", () -> {
            int[] values = {30, 29, 1, 2, 17};
            for (int value : values) {
                Recipe four = five().then("uncoin", value);
                asks(4, four, "ofCoins", 0);
                asks(value == 1 ? 2 : 1, four, "ofCoins", 1);
                asks(value == 30 ? 29 : 30, four, "ofCoins", 2);
                asks("throws." + STATE, four, "uncoin", value);
            }
        });
        of("Returns how many SUMS can be PAID then.", () -> {
            asks(1, coins(1), "uncoin", 1);
            asks(1, coins(30), "uncoin", 30);
            asks(31, coins(30, 1), "uncoin", 1);
            asks(901, coins(30, 1), "uncoin", 30);
            asks(181, coins(3, 5), "uncoin", 3);
        });
        of("Throws `IllegalArgumentException` if value is not 1 to 30", () -> {
            bounds(ARGUMENT, 1, 30, 0, "uncoin", 0);
            boundsFor(five(), ARGUMENT, 1, 30, 0, "uncoin", 0);
        });
        of("Throws `IllegalStateException` if it is not there", () -> {
            for (int value = 1; value <= 30; value++) {
                refused(STATE, fresh(), "uncoin", value);
                refused(STATE, coins(value).then("uncoin", value), "uncoin", value);
                refused(STATE, coins(value % 30 + 1), "uncoin", value);
            }
            refused(STATE, five(), "uncoin", 3);
            refused(ARGUMENT, fresh(), "uncoin", 31);
            asks(1, coins(8).then("uncoin", 8).then("undo"), "uncoin", 8);
        });
    }

    private static void paying() {
        inPromise(22);
        of("- `sum`: a sum", () -> {
            for (int sum = 0; sum <= 900; sum += 60) {
                asks(true, coins(30), "canPay", sum);
                asks(sum == 0, fresh(), "canPay", sum);
            }
        });
        of("Returns whether it can be PAID.", () -> {
            asks(true, coins(1), "canPay", 900);
            asks(true, coins(1), "canPay", 1);
            asks(false, coins(2), "canPay", 899);
            asks(true, coins(2), "canPay", 900);
            asks(false, fresh(), "canPay", 900);
            asks(false, coins(3, 5), "canPay", 7);
            asks(true, coins(3, 5), "canPay", 8);
            asks(false, coins(3, 5).then("undo"), "canPay", 8);
            changesNothing(full(), "canPay", 900);
        });
        of("Throws `IllegalArgumentException` if sum is not 0 to 900", () -> bounds(ARGUMENT, 0, 900, 0, "canPay", 0));
        inPromise(23);
        of("- `sum`: a sum - `isAbove`: whether the least one of SUMS that is no less is looked for, otherwise the greatest one "
                + "that is no more", () -> {
            // a sum that can be PAID is no less and no more than itself
            for (int sum = 0; sum <= 900; sum += 30) {
                asks(sum, coins(30), "payNext", sum, true);
                asks(sum, coins(30), "payNext", sum, false);
            }
            asks(60, coins(30), "payNext", 31, true);
            asks(30, coins(30), "payNext", 31, false);
            asks(900, coins(30), "payNext", 899, true);
            asks(870, coins(30), "payNext", 899, false);
            asks(0, coins(30), "payNext", 1, false);
        });
        of("Returns that which can be PAID (NONE without).", () -> {
            asks(0, fresh(), "payNext", 0, true);
            asks(0, fresh(), "payNext", 0, false);
            asks(-1, fresh(), "payNext", 1, true);
            asks(0, fresh(), "payNext", 1, false);
            asks(-1, fresh(), "payNext", 900, true);
            asks(0, fresh(), "payNext", 900, false);
            // behind 899 the next one is 928, which is none of SUMS
            asks(899, coins(29), "payNext", 899, true);
            asks(-1, coins(29), "payNext", 900, true);
            asks(899, coins(29), "payNext", 900, false);
            asks(900, coins(9), "payNext", 892, true);
            changesNothing(full(), "payNext", 7, true);
        });
        of("Throws `IllegalArgumentException` if sum is not 0 to 900", () -> {
            bounds(ARGUMENT, 0, 900, 0, "payNext", 0, true);
            bounds(ARGUMENT, 0, 900, 0, "payNext", 0, false);
        });
        inPromise(24);
        of("How many SUMS from one on to another one (both included) can be PAID.", () -> {
            int[][] told = {{0, 0, 1}, {0, 29, 1}, {0, 30, 2}, {1, 29, 0}, {1, 30, 1}, {29, 29, 0}, {29, 30, 1}, {30, 30, 1},
                {30, 31, 1}, {31, 31, 0}, {870, 900, 2}, {871, 899, 0}, {871, 900, 1}, {870, 899, 1}, {899, 899, 0},
                {899, 900, 1}, {900, 900, 1}, {0, 900, 31}, {1, 899, 29}};
            for (int[] of : told) {
                asks(of[2], coins(30), "payable", of[0], of[1]);
            }
        });
        of("It is LET; it can't be done, if low is above high. - `low`: the one - `high`: the other one", () -> {
            for (Recipe recipe : new Recipe[] {fresh(), coins(30), coins(1)}) {
                for (int high : new int[] {0, 1, 29, 449, 898, 899}) {
                    asks(-9, recipe, "payable", high + 1, high);
                    asks(-9, recipe, "payable", 900, high);
                    due(false, outcome(recipe.made(), "payable", high, high).equals(-9));
                    changesNothing(recipe, "payable", high + 1, high);
                }
            }
        });
        of("Returns that; -9 if it can't be done.", () -> {
            asks(901, coins(1), "payable", 0, 900);
            asks(899, coins(1), "payable", 1, 899);
            asks(1, fresh(), "payable", 0, 900);
            asks(0, fresh(), "payable", 1, 900);
            asks(7, coins(3, 5), "payable", 0, 10);
            asks(2, coins(3, 5), "payable", 3, 5);
            asks(1, coins(3, 5), "payable", 4, 5);
            asks(1, coins(3, 5), "payable", 3, 4);
            asks(0, coins(3, 5), "payable", 7, 7);
            changesNothing(full(), "payable", 0, 900);
        });
        of("Throws `IllegalArgumentException` if low or high is not 0 to 900", () -> {
            bounds(ARGUMENT, 0, 900, 0, "payable", 0, 900);
            bounds(ARGUMENT, 0, 900, 0, "payable", 0, 0);
            bounds(ARGUMENT, 0, 900, 1, "payable", 0, 0);
            bounds(ARGUMENT, 0, 900, 1, "payable", 900, 0);
        });
    }

    private static void figures() {
        inPromise(25);
        of("- `what`: 0 how many COINS, 1 the least, 2 the greatest (1 and 2: NONE without), 3 the GCD of all (0 without), 4 the "
                + "greatest sum that cannot be PAID (NONE, if all can, or the GCD is not 1), 5 how many sums cannot be PAID "
                + "(NONE, if the GCD is not 1)", () -> {
            Recipe[] recipes = {fresh(), coins(1), coins(30), coins(2), coins(1, 30), coins(2, 3), coins(3, 5), coins(30, 29),
                coins(4, 30), coins(6, 10, 15), five(), coins(30, 28, 26, 24, 22), coins(30, 28, 26, 24, 29),
                coins(3, 5).then("uncoin", 3), coins(1).then("uncoin", 1)};
            int[][] told = {{0, -1, -1, 0, -1, -1}, {1, 1, 1, 1, -1, 0}, {1, 30, 30, 30, -1, -1}, {1, 2, 2, 2, -1, -1},
                {2, 1, 30, 1, -1, 0}, {2, 2, 3, 1, 1, 1}, {2, 3, 5, 1, 7, 4}, {2, 29, 30, 1, 811, 406},
                {2, 4, 30, 2, -1, -1}, {3, 6, 15, 1, 29, 15}, {5, 1, 30, 1, -1, 0}, {5, 22, 30, 2, -1, -1},
                {5, 24, 30, 1, 123, 66}, {1, 5, 5, 5, -1, -1}, {0, -1, -1, 0, -1, -1}};
            for (int i = 0; i < recipes.length; i++) {
                for (int what = 0; what <= 5; what++) {
                    asks(told[i][what], recipes[i], "ofCoins", what);
                }
            }
            // of two COINS without a common divisor that is a * b - a - b, and half of all sums from 0 to it
            for (int a = 1; a <= 30; a++) {
                for (int b = a + 1; b <= 30; b++) {
                    boolean isOne = java.math.BigInteger.valueOf(a).gcd(java.math.BigInteger.valueOf(b)).intValue() == 1;
                    asks(isOne ? a * b - a - b : -1, coins(b, a), "ofCoins", 4);
                    asks(isOne ? (a * b - a - b + 1) / 2 : -1, coins(b, a), "ofCoins", 5);
                }
            }
        });
        of("Returns that.", () -> changesNothing(full(), "ofCoins", 4));
        of("Throws `IllegalArgumentException` if what is not 0 to 5", () -> {
            bounds(ARGUMENT, 0, 5, 0, "ofCoins", 0);
            boundsFor(five(), ARGUMENT, 0, 5, 0, "ofCoins", 0);
        });
    }

    private static void waysAndFewest() {
        inPromise(26);
        of("- `sum`: a sum", () -> {
            asks(1, fresh(), "ways", 0);
            asks(1, coins(30), "ways", 300);
            asks(0, coins(29), "ways", 300);
        });
        of("Returns in how many ways it is PAID (how often each COIN is taken, whatever the order).", () -> {
            asks(0, fresh(), "ways", 1);
            asks(0, fresh(), "ways", 300);
            asks(1, coins(1), "ways", 300);
            asks(1, coins(2), "ways", 300);
            asks(0, coins(2), "ways", 299);
            asks(151, coins(1, 2), "ways", 300);
            asks(2, coins(1, 2), "ways", 2);
            asks(2, coins(1, 2), "ways", 3);
            // the whole number that is nearest to 303 * 303 / 12
            asks(7651, coins(1, 2, 3), "ways", 300);
            asks(3103576, coins(1, 2, 3, 4, 5), "ways", 300);
            asks(151, coins(1, 2, 3).then("uncoin", 3), "ways", 300);
            asks(151, coins(1, 2, 3).then("undo"), "ways", 300);
            asks(2, coins(3, 5), "ways", 15);
            asks(0, coins(3, 5), "ways", 7);
            asks(1, coins(3, 5), "ways", 8);
            asks(11, coins(1, 30), "ways", 300);
            changesNothing(full(), "ways", 300);
        });
        of("Throws `IllegalArgumentException` if sum is not 0 to 300", () -> {
            bounds(ARGUMENT, 0, 300, 0, "ways", 0);
            boundsFor(coins(1, 2, 3, 4, 5), ARGUMENT, 0, 300, 0, "ways", 0);
        });
        inPromise(27);
        of("- `sum`: a sum", () -> {
            asks(0, fresh(), "fewest", 0);
            asks(30, coins(30), "fewest", 900);
            asks(-1, coins(29), "fewest", 900);
            asks(31, coins(29), "fewest", 899);
        });
        of("Returns by how few COINS it is PAID; NONE if it can't be.", () -> {
            asks(-1, fresh(), "fewest", 1);
            asks(-1, fresh(), "fewest", 900);
            asks(900, coins(1), "fewest", 900);
            asks(1, coins(1), "fewest", 1);
            asks(30, coins(1, 30), "fewest", 900);
            asks(58, coins(1, 30), "fewest", 899);
            asks(30, coins(1, 29, 30), "fewest", 899);
            asks(31, coins(1, 29, 30).then("uncoin", 30), "fewest", 899);
            // the greatest one first is not the fewest
            asks(2, coins(1, 3, 4), "fewest", 6);
            asks(2, coins(1, 15, 25), "fewest", 30);
            asks(-1, coins(3, 5), "fewest", 7);
            asks(2, coins(3, 5), "fewest", 8);
            changesNothing(full(), "fewest", 900);
        });
        of("Throws `IllegalArgumentException` if sum is not 0 to 900", () -> bounds(ARGUMENT, 0, 900, 0, "fewest", 0));
    }
}
