/** Section 3 of the document and the promises 7 to 19. */
final class EdgesOfSystems extends Edges {
    private EdgesOfSystems() {
    }

    static void run() {
        in("3");
        systems();
        formAndDiagonal();
        answers();
        papers();
        tellingPromises();
        changingPromises();
        figuresAndTexts();
        answersAndBasis();
        cubeAndPaper();
    }

    private static Recipe fourRows() {
        return system(4, row(1, 2, 3, 4, 5), row(6, 7, 8, 9, 10), row(-11, 12, -13, 14, -15), row(16, -17, 18, -19, 20));
    }

    private static Recipe threeUnknowns() {
        return system(3, row(2, 4, 4, 6), row(-6, 6, 12, 6));
    }

    private static void systems() {
        of("A SYSTEM has 1 to 4 UNKNOWNS (2 at first), numbered from 0,", () -> {
            asks(2, fresh(), "ofSystem", 0);
            asks("0 0", fresh(), "answer");
            for (int many = 1; many <= 4; many++) {
                asks(many, fresh().then("unknowns", many), "ofSystem", 0);
                asks("0 0 0 0".substring(0, 2 * many - 1), fresh().then("unknowns", many), "answer");
            }
            asks(2, fresh().then("unknowns", 4).then("undo"), "ofSystem", 0);
            refused(ARGUMENT, fresh(), "unknowns", 0);
            refused(ARGUMENT, fresh(), "unknowns", 5);
            asks(7, system(1, row(7, 0)), "changeRow", 0, 0, 1);
            asks(7, system(4, row(0, 0, 0, 7, 0)), "changeRow", 0, 3, 1);
        });
        of("and at most 4 ROWS, at places from 0 on (none at first),", () -> {
            asks(0, fresh(), "ofSystem", 1);
            Diophantdesk d = fresh().made();
            for (int place = 0; place < 4; place++) {
                due(place, d.row(place, 1, 0, 0, 0));
                due(place + 1, d.ofSystem(1));
            }
            due("throws." + STATE, outcome(d, "row", 1, 0, 0, 0, 0));
            for (int place = 0; place < 4; place++) {
                due(place, d.changeRow(place, 0, 5));
            }
            due("throws." + INDEX, outcome(d, "changeRow", 4, 0, 5));
        });
        of("each with a FACTOR (-20 to 20) for each UNKNOWN and a RIGHT side (-999 to 999).", () -> {
            asks("20 -20 20 -20 999", system(4, row(20, -20, 20, -20, 999)), "form", 0);
            asks("20 -20 20 -20 999", system(4, row(-20, 20, -20, 20, -999)), "form", 0);
            for (int unknowns = 1; unknowns <= 4; unknowns++) {
                // as many FACTORS, and the RIGHT side is behind them
                Recipe system = fresh().then("unknowns", unknowns).then("row", 1, 2, 3, 4, 5);
                asks("1 2 3 4".substring(0, 2 * unknowns - 1) + " 5", system, "form", 0);
                asks(5, system, "changeRow", 0, unknowns, 0);
                asks("throws." + ARGUMENT, system, "changeRow", 0, unknowns + 1, 0);
            }
        });
        of("An ANSWER gives each UNKNOWN a whole number, so that in each ROW the FACTORS times these, added up, are the RIGHT "
                + "side.", () -> {
            asks("none", system(1, row(2, 3)), "answer");
            asks("none", system(1, row(0, 3)), "answer");
            asks("0", system(1, row(0, 0)), "answer");
            asks("none", system(1, row(2, 4), row(2, 6)), "answer");
            asks("2", system(1, row(2, 4), row(3, 6)), "answer");
            asks("1 1 1 1", system(4, row(1, 2, 3, 4, 10), row(0, 1, 0, 0, 1), row(0, 0, 1, 1, 2), row(1, 0, 0, -1, 0)),
                    "answer");
        });
    }

    private static void formAndDiagonal() {
        of("FORM: the STEP FORM of the TABLE of all ROWS, each with its FACTORS and then its RIGHT side.", () -> {
            askForm(system(3));
            askForm(threeUnknowns(), "2 4 4 6", "0 18 24 24");
            askForm(system(2, row(0, 0, -3), row(0, 5, 7), row(0, 0, 0)), "0 5 1", "0 0 3", "0 0 0");
            askForm(system(2, row(2, 4, 3), row(1, 2, 5)), "1 2 5", "0 0 7");
        });
        of("ACTS of the SYSTEM are those by which it comes, numbered from 0.", () -> {
            askActs(fresh());
            askActs(system(2, row(1, 2, 3)));
            askActs(system(2, row(2, 4, 3), row(1, 2, 5)), "0-2*1", "0~1", "!1");
            askActs(system(2, row(-3, 1, 1), row(7, 0, 5)), "1-(-2)*0", "0-(-3)*1", "0~1");
        });
        of("The DIAGONAL: d1, d2, .. as many as the RANK of the FACTORS (the TABLE without RIGHT sides), each above 0;", () -> {
            asks("", fresh(), "diagonal");
            asks("", system(4), "diagonal");
            asks("", system(2, row(0, 0, 3), row(0, 0, 5)), "diagonal");
            asks("3", system(1, row(-3, 7)), "diagonal");
            asks("1", system(2, row(2, 4, 3), row(1, 2, 5)), "diagonal");
            asks("5 5", system(2, row(0, 5, 1), row(5, 0, 1)), "diagonal");
            asks("20 20 20", system(4, row(-20, 0, 0, 0, 1), row(0, -20, 0, 0, 1), row(0, 0, 20, 0, 1)), "diagonal");
        });
        of("d1 * .. * dk is the GCD of all k by k minors of the FACTORS (determinants of what is left of k rows and k "
                + "columns).", () -> {
            asks("2", system(1, row(4, 0), row(6, 0)), "diagonal");
            asks("1", system(4, row(6, 10, 15, 0, 0)), "diagonal");
            asks("6", system(4, row(12, 18, 0, 6, 0)), "diagonal");
            asks("1 6", system(2, row(2, 0, 0), row(0, 3, 0)), "diagonal");
            asks("2 12", system(2, row(4, 0, 0), row(0, 6, 0)), "diagonal");
            // the only minors other than 0 are of the rows 1, 3 and the columns 0, 2
            asks("3 3", system(3, row(0, 0, 0, 0), row(3, 0, 0, 0), row(0, 0, 0, 0), row(0, 0, 3, 0)), "diagonal");
        });
        of("Each divides the next one.", () -> {
            asks("2 6 12", system(3, row(2, 4, 4, 0), row(-6, 6, 12, 0), row(10, -4, -16, 0)), "diagonal");
            asks("20 40 40 80", system(4, row(20, 20, 20, 20, 0), row(20, -20, 20, -20, 0), row(20, 20, -20, -20, 0),
                    row(20, -20, -20, 20, 0)), "diagonal");
            asks("1 1 1 180", system(4, row(4, 0, 0, 0, 0), row(0, 9, 0, 0, 0), row(0, 0, 5, 0, 0), row(0, 0, 0, 1, 0)),
                    "diagonal");
            asks("1 10 10", system(3, row(10, 0, 0, 0), row(0, 10, 0, 0), row(0, 0, 1, 0)), "diagonal");
        });
    }

    private static void answers() {
        of("COLUMNS: the TABLE with a row for each UNKNOWN, which has the FACTORS of it, ROW by ROW of the SYSTEM. To its rows "
                + "are put those of a second TABLE, in which the row of the UNKNOWN u has 1 at u, otherwise 0; the ACTS of the "
                + "STEP FORM of COLUMNS are done to these, too (the STEP FORM goes by COLUMNS alone). S0, S1, .. are the PIVOT "
                + "ROWS then, with PLACES P0, P1, .. (which are ROWS of the SYSTEM), and W0, W1, .. the rows of the second "
                + "TABLE, for PIVOT ROWS and for the others.", () -> {
            // 6, 10 by the UNKNOWNS comes to 2 with (2, -1), and 0 with (-5, 3)
            asks("4 -1", system(2, row(6, 10, 14)), "answer");
            askBasis(system(2, row(6, 10, 14)), "5 -3");
            // without ROWS, and with those that have 0 alone, there is no column and no PIVOT ROW
            askBasis(system(3), "1 0 0", "0 1 0", "0 0 1");
            askBasis(system(3, row(0, 0, 0, 0)), "1 0 0", "0 1 0", "0 0 1");
            // PLACES 1 and 3
            Recipe gaps = system(2, row(0, 0, 0), row(2, 0, 2), row(4, 0, 4), row(1, 3, 4));
            asks("1 1", gaps, "answer");
            askBasis(gaps);
        });
        of("To TRY is to go ROW i by ROW i of the SYSTEM: what is SETTLED is the sum of zk * Sk at i for all k with Pk ahead of "
                + "i.", () -> {
            Recipe system = system(2, row(2, 0, 2), row(1, 3, 4), row(1, 1, 2));
            asks(-1, system, "ofSystem", 4);
            asks("1 1", system, "answer");
            asks(0, system.then("changeRow", 0, 2, 1), "ofSystem", 4);
            asks(1, system.then("changeRow", 1, 2, 5), "ofSystem", 4);
            asks(2, system.then("changeRow", 2, 2, 3), "ofSystem", 4);
        });
        of("If i is some Pk, zk is RIGHT less what is SETTLED, divided by Sk at i; if that is not whole, i is the FAULT.", () -> {
            for (int right = -9; right <= 9; right++) {
                asks(right % 3 == 0 ? -1 : 0, system(1, row(3, right)), "ofSystem", 4);
                asks(right % 3 == 0 ? "" + right / 3 : "none", system(1, row(3, right)), "answer");
                asks(right % 3 == 1 || right % 3 == -2 ? -1 : 1, system(2, row(1, 0, 1), row(1, 3, right)), "ofSystem", 4);
            }
            asks(3, system(4, row(1, 0, 0, 0, 999), row(0, 1, 0, 0, -999), row(0, 0, 1, 0, 0), row(0, 0, 0, 20, 999)),
                    "ofSystem", 4);
        });
        of("If i is none, it is the FAULT if what is SETTLED is not RIGHT.", () -> {
            asks(-1, system(1, row(0, 0)), "ofSystem", 4);
            asks(0, system(1, row(0, 1)), "ofSystem", 4);
            asks(0, system(1, row(0, -999)), "ofSystem", 4);
            for (int right = 5; right <= 7; right++) {
                asks(right == 6 ? -1 : 1, system(2, row(1, 2, 3), row(2, 4, right)), "ofSystem", 4);
            }
            asks(3, system(1, row(1, 1), row(1, 1), row(1, 1), row(1, 0)), "ofSystem", 4);
        });
        of("With the first FAULT one ends.", () -> {
            asks(0, system(1, row(2, 1), row(0, 1), row(3, 1), row(0, 2)), "ofSystem", 4);
            asks("1/2 0 0 0", system(1, row(2, 1), row(0, 1), row(3, 1), row(0, 2)), "paper");
            asks(1, system(1, row(0, 0), row(0, 1), row(2, 1), row(0, 2)), "ofSystem", 4);
            asks("0 1/2 0 0", system(1, row(0, 0), row(0, 1), row(2, 1), row(0, 2)), "paper");
        });
        of("Without a FAULT there is an ANSWER.", () -> {
            asks("none", system(1, row(0, 0), row(0, 1), row(2, 2)), "answer");
            asks("1", system(1, row(0, 0), row(0, 0), row(2, 2)), "answer");
            asks("none", system(1, row(2, 2), row(0, 1)), "answer");
            asks("0 0", fresh(), "answer");
        });
        of("(They are UNKNOWNS less RANK many.)", () -> {
            for (int unknowns = 1; unknowns <= 4; unknowns++) {
                Recipe system = system(unknowns);
                for (int rank = 0; rank <= unknowns; rank++) {
                    asks(rank, system, "ofSystem", 2);
                    asks(unknowns - rank, system, "ofSystem", 3);
                    asks("throws." + INDEX, system, "basis", unknowns - rank);
                    if (rank < unknowns) {
                        system = system.then("row", rank == 0 ? 1 : 0, rank == 1 ? 2 : 0, rank == 2 ? 3 : 0, rank == 3 ? 4 : 0, 1);
                    }
                }
            }
        });
        of("BASIS: the PIVOT ROWS of the STEP FORM of the TABLE of all Wk behind those of PIVOT ROWS.", () -> {
            askBasis(fresh(), "1 0", "0 1");
            askBasis(system(4), "1 0 0 0", "0 1 0 0", "0 0 1 0", "0 0 0 1");
            askBasis(system(4, row(1, 1, 1, 1, 0)), "1 0 0 -1", "0 1 0 -1", "0 0 1 -1");
            askBasis(system(4, row(3, 6, 9, 12, 3), row(6, 10, 15, 0, 1)), "20 0 -8 1", "0 3 -2 0");
            askBasis(system(4, row(1, 0, 0, 0, 0), row(0, 1, 0, 0, 0), row(0, 0, 2, 3, 0)), "0 0 3 -2");
            askBasis(system(1, row(5, 3)));
            askBasis(system(2, row(2, 4, 3)), "2 -1");
            askBasis(system(3, row(20, -20, 20, 1), row(0, 0, 0, 2)), "1 0 -1", "0 1 1");
        });
        of("The ANSWER that is told: the sum of all zk * Wk; then, BASIS row by BASIS row, q times this row is taken off, q "
                + "being FLOOR of what stands at the PLACE of this row, divided by what that row has there.", () -> {
            // the BASIS is 5 -3: x of 0, the least, and of 4, the greatest
            asks("0 3", system(2, row(6, 10, 30)), "answer");
            asks("4 0", system(2, row(6, 10, 24)), "answer");
            asks("4 -3", system(2, row(6, 10, -6)), "answer");
            asks("0 -3", system(2, row(6, 10, -30)), "answer");
            asks("0 0", system(2, row(6, 10, 0)), "answer");
            asks("16 1 -7 1", system(4, row(3, 6, 9, 12, 3), row(6, 10, 15, 0, 1)), "answer");
            asks("0 0 0 999", system(4, row(1, 1, 1, 1, 999)), "answer");
            asks("0 0 0 -999", system(4, row(1, 1, 1, 1, -999)), "answer");
            asks("-999", system(1, row(1, -999)), "answer");
        });
    }

    private static void papers() {
        of("PAPER (if there is a FAULT i): a fraction for each ROW of the SYSTEM.", () -> {
            asks("", fresh(), "paper");
            asks("", system(1, row(2, 4)), "paper");
            asks("1/2", system(1, row(2, 1)), "paper");
            asks("1/2 0 0 0", system(1, row(2, 1), row(0, 0), row(2, 1), row(3, 1)), "paper");
        });
        of("If i is some Pk: 1 / (Sk at i) for i; otherwise 1 for i, and k is how many of the PLACES are ahead of i.", () -> {
            asks("1/2", system(1, row(2, 3)), "paper");
            asks("1/20", system(2, row(-20, 20, 999)), "paper");
            asks("1/2", system(2, row(4, 6, 7)), "paper");
            asks("1/2", system(1, row(0, 1)), "paper");
            asks("0 0 1/7 0", system(1, row(0, 0), row(0, 0), row(7, 6), row(0, 7)), "paper");
        });
        of("All others are 0.", () -> {
            asks("0 0 1/7 0", system(1, row(0, 0), row(0, 0), row(7, 6), row(0, 7)), "paper");
            asks("-1 0 1/2 0", system(2, row(1, 2, 3), row(0, 0, 0), row(2, 4, 7), row(0, 1, 1)), "paper");
        });
        of("Then for l from k - 1 down to 0: for Pl what makes the sum of all fractions so far (and this one), each times Sl at "
                + "its ROW, 0.", () -> {
            asks("-1/6 1/3", system(2, row(2, 0, 2), row(1, 3, 2)), "paper");
            asks("-1/15 -1/15 1/5", system(3, row(2, 0, 0, 2), row(1, 3, 0, 4), row(1, 1, 5, 3)), "paper");
            asks("0 -1/6 0 1/3", system(2, row(0, 0, 0), row(2, 0, 2), row(4, 0, 4), row(1, 3, 2)), "paper");
            asks("-1/15 -1/15 1/5 0", system(3, row(2, 0, 0, 2), row(1, 3, 0, 4), row(1, 1, 5, 3), row(1, 1, 1, 1)), "paper");
            asks("0 0 0 1/20", system(4, row(1, 0, 0, 0, 999), row(0, 1, 0, 0, -999), row(0, 0, 1, 0, 0),
                    row(0, 0, 0, 20, 999)), "paper");
        });
        of("If i is no Pk, all are divided by 2 * (RIGHT at i less what is SETTLED) at last.", () -> {
            asks("-1 1/2", system(2, row(1, 2, 3), row(2, 4, 7)), "paper");
            asks("1 -1/2", system(2, row(1, 2, 3), row(2, 4, 5)), "paper");
            asks("-1/2 1/4", system(2, row(1, 2, 3), row(2, 4, 8)), "paper");
            asks("-1/6 -1/6 1/2", system(2, row(2, 0, 2), row(1, 3, 4), row(1, 1, 3)), "paper");
            asks("1/12 1/12 -1/4", system(2, row(2, 0, 2), row(1, 3, 4), row(1, 1, 0)), "paper");
            asks("1/1998", system(4, row(0, 0, 0, 0, 999)), "paper");
            asks("-1/1998 0", system(4, row(0, 0, 0, 0, -999), row(1, 0, 0, 0, 0)), "paper");
        });
    }

    private static void tellingPromises() {
        inPromise(7);
        of("A new SYSTEM without ROWS. - `many`: how many UNKNOWNS", () -> {
            for (int many = 1; many <= 4; many++) {
                asks(many, fourRows().then("unknowns", many), "ofSystem", 0);
                asks(0, fourRows().then("unknowns", many), "ofSystem", 1);
                asks("throws." + INDEX, fourRows().then("unknowns", many), "form", 0);
                asks(0, fourRows().then("unknowns", many), "row", 1, 1, 1, 1, 1);
            }
        });
        of("Returns how many ROWS went.", () -> {
            asks(0, fresh(), "unknowns", 1);
            asks(1, system(4, row(0, 0, 0, 0, 0)), "unknowns", 4);
            asks(4, fourRows(), "unknowns", 4);
            asks(0, fourRows().then("unknowns", 2), "unknowns", 2);
            asks(3, fourRows().then("dropRow", 0), "unknowns", 3);
        });
        of("Throws `IllegalArgumentException` if many is not 1 to 4", () -> bounds(ARGUMENT, 1, 4, 0, "unknowns", 0));
        inPromise(8);
        of("Tells a ROW; it stands last.", () -> {
            asks(9, system(1, row(1, 1), row(2, 2)).then("row", 9, 20, 20, 20, 0), "changeRow", 2, 0, 0);
            for (int place = 0; place < 4; place++) {
                asks(new int[] {1, 6, -11, 16}[place], fourRows(), "changeRow", place, 0, 0);
            }
        });
        of("(FACTORS of UNKNOWNS that there are not are lost.) - `a`: the FACTOR of the UNKNOWN 0 - `b`: of 1 - `c`: of 2 - `d`: of "
                + "3 - `right`: the RIGHT side", () -> {
            String[] forms = {"1 5", "1 2 5", "1 2 3 5", "1 2 3 4 5"};
            for (int many = 1; many <= 4; many++) {
                Recipe one = fresh().then("unknowns", many).then("row", 1, 2, 3, 4, 5);
                asks(forms[many - 1], one, "form", 0);
                // what is lost does not come back with more UNKNOWNS, nor to a place that is told again
                asks("0 0 0 0 0", one.then("unknowns", 4).then("row", 0, 0, 0, 0, 0), "form", 0);
            }
            asks("4 4", fresh().then("unknowns", 1).then("row", 4, 0, 0, 0, 4), "form", 0);
            asks("0 1 0 0", system(4, row(0, 0, 0, 0, 0)).then("row", 0, 0, 0, 0, 0).then("row", 1, 0, -1, 0, 0),
                    "basis", 1);
        });
        of("Returns its place.", () -> {
            asks(0, fresh(), "row", 0, 0, 0, 0, 0);
            asks(3, fourRows().then("dropRow", 0), "row", 0, 0, 0, 0, 0);
            asks(2, fourRows().then("dropRow", 3).then("dropRow", 2), "row", 0, 0, 0, 0, 0);
        });
        of("Throws `IllegalArgumentException` if a, b, c or d is not -20 to 20, or right not -999 to 999", () -> {
            for (int at = 0; at < 4; at++) {
                bounds(ARGUMENT, -20, 20, at, "row", 1, 2, 3, 4, 5);
                boundsFor(fresh().then("unknowns", 1), ARGUMENT, -20, 20, at, "row", 0, 0, 0, 0, 0);
                boundsFor(fourRows(), ARGUMENT, -20, 20, at, "row", 0, 0, 0, 0, 0);
            }
            bounds(ARGUMENT, -999, 999, 4, "row", 1, 2, 3, 4, 0);
        });
        of("Throws `IllegalStateException` if there are 4", () -> {
            asks(3, fourRows().then("dropRow", 0), "row", 1, 1, 1, 1, 1);
            refused(STATE, fourRows(), "row", 1, 1, 1, 1, 1);
            refused(STATE, fourRows(), "row", -20, 20, -20, 20, 999);
            refused(STATE, full(), "row", 0, 0, 0, 0, 0);
            // the other exception is named first
            refused(ARGUMENT, fourRows(), "row", 1, 1, 1, 21, 1);
            refused(ARGUMENT, fourRows(), "row", 1, 1, 1, 1, -1000);
            refused(STATE, fourRows().then("dropRow", 3).then("undo"), "row", 1, 1, 1, 1, 1);
        });
    }

    private static void changingPromises() {
        inPromise(9);
        of("Changes a number of a ROW. - `place`: the ROW - `column`: the UNKNOWN whose FACTOR it is; how many UNKNOWNS there are "
                + "for the RIGHT side - `value`: the number from now on", () -> {
            for (int many = 1; many <= 4; many++) {
                Recipe system = fresh().then("unknowns", many).then("row", 1, 2, 3, 4, 5).then("row", 0, 0, 0, 0, 0);
                for (int column = 0; column <= many; column++) {
                    asks(column < many ? column + 1 : 5, system, "changeRow", 0, column, 20);
                    asks(20, system.then("changeRow", 0, column, 20), "changeRow", 0, column, 7);
                    asks(0, system.then("changeRow", 0, column, 20), "changeRow", 1, column, 7);
                }
            }
            asks("20 7 8 9 10", fourRows().then("changeRow", 1, 0, 20).then("dropRow", 0).then("dropRow", 1)
                    .then("dropRow", 1), "form", 0);
        });
        of("Returns that before.", () -> {
            asks(20, fourRows(), "changeRow", 3, 4, -999);
            asks(-999, fourRows().then("changeRow", 3, 4, -999), "changeRow", 3, 4, 999);
            asks(999, fourRows().then("changeRow", 3, 4, 999), "changeRow", 3, 4, 999);
            asks(-19, fourRows().then("changeRow", 3, 3, 5).then("undo"), "changeRow", 3, 3, 6);
        });
        of("Throws `IndexOutOfBoundsException` if there is no such ROW", () -> {
            boundsFor(fourRows(), INDEX, 0, 3, 0, "changeRow", 0, 0, 7);
            boundsFor(full(), INDEX, 0, 3, 0, "changeRow", 0, 4, 7);
            boundsFor(halfway(), INDEX, 0, 1, 0, "changeRow", 0, 0, 7);
            boundsFor(system(1, row(5, 5)), INDEX, 0, 0, 0, "changeRow", 0, 0, 7);
            for (int place : new int[] {-1, 0, 1}) {
                refused(INDEX, fresh(), "changeRow", place, 0, 0);
                // named ahead of what is wrong with the others
                refused(INDEX, fresh(), "changeRow", place, 3, 0);
                refused(INDEX, fresh(), "changeRow", place, -1, 1000);
            }
            refused(INDEX, fourRows(), "changeRow", 4, 5, 1000);
            refused(INDEX, fourRows().then("unknowns", 4), "changeRow", 0, 0, 0);
        });
        of("Throws `IllegalArgumentException` if column is not 0 to how many UNKNOWNS there are, or value not -20 to 20 (not -999 "
                + "to 999 of a RIGHT side)", () -> {
            for (int many = 1; many <= 4; many++) {
                Recipe system = fresh().then("unknowns", many).then("row", 1, 2, 3, 4, 5);
                boundsFor(system, ARGUMENT, 0, many, 1, "changeRow", 0, 0, 7);
                for (int column = 0; column < many; column++) {
                    boundsFor(system, ARGUMENT, -20, 20, 2, "changeRow", 0, column, 0);
                }
                boundsFor(system, ARGUMENT, -999, 999, 2, "changeRow", 0, many, 0);
                refused(ARGUMENT, system, "changeRow", 0, many + 1, 1000);
            }
            boundsFor(full(), ARGUMENT, -20, 20, 2, "changeRow", 3, 3, 0);
            boundsFor(full(), ARGUMENT, -999, 999, 2, "changeRow", 3, 4, 0);
        });
        inPromise(10);
        of("A ROW goes; those behind it move up. - `place`: the ROW", () -> {
            int[][] left = {{6, -11, 16}, {1, -11, 16}, {1, 6, 16}, {1, 6, -11}};
            for (int place = 0; place < 4; place++) {
                for (int at = 0; at < 3; at++) {
                    asks(left[place][at], fourRows().then("dropRow", place), "changeRow", at, 0, 0);
                }
                asks("throws." + INDEX, fourRows().then("dropRow", place), "changeRow", 3, 0, 0);
                // all numbers of a ROW move
                for (int column = 1; column <= 4; column++) {
                    asks(place == 0 ? 6 + column : column + 1, fourRows().then("dropRow", place), "changeRow", 0, column, 0);
                }
            }
        });
        of("Returns how many there are then.", () -> {
            Diophantdesk d = fourRows().made();
            for (int left = 3; left >= 0; left--) {
                due(left, d.dropRow(left / 2));
            }
            due(0, d.ofSystem(1));
        });
        of("Throws `IndexOutOfBoundsException` if there is no such ROW", () -> {
            boundsFor(fourRows(), INDEX, 0, 3, 0, "dropRow", 0);
            boundsFor(full(), INDEX, 0, 3, 0, "dropRow", 0);
            boundsFor(halfway(), INDEX, 0, 1, 0, "dropRow", 0);
            boundsFor(system(1, row(5, 5)), INDEX, 0, 0, 0, "dropRow", 0);
            refused(INDEX, fresh(), "dropRow", 0);
            refused(INDEX, fresh(), "dropRow", -1);
            refused(INDEX, system(1, row(5, 5)).then("dropRow", 0), "dropRow", 0);
        });
    }

    private static void figuresAndTexts() {
        inPromise(11);
        of("- `what`: 0 how many UNKNOWNS, 1 how many ROWS, 2 the RANK of the FACTORS, 3 how many rows BASIS has, 4 the FAULT "
                + "(NONE without), 5 how many ACTS", () -> {
            Recipe[] systems = {fresh(), system(1), system(4), system(3, row(1, 2, 3, 4), row(2, 4, 6, 8), row(0, 0, 0, 1)),
                fourRows(), system(1, row(0, 0), row(0, 0), row(0, 0), row(-2, 1)), system(2, row(0, 0, 5))};
            int[][] told = {{2, 0, 0, 2, -1, 0}, {1, 0, 0, 1, -1, 0}, {4, 0, 0, 4, -1, 0}, {3, 3, 1, 2, 2, 3},
                {4, 4, 4, 0, -1, -2}, {1, 4, 1, 0, 3, 2}, {2, 1, 0, 2, 0, 0}};
            for (int i = 0; i < systems.length; i++) {
                for (int what = 0; what <= 5; what++) {
                    if (told[i][what] > -2) {
                        asks(told[i][what], systems[i], "ofSystem", what);
                    }
                }
            }
        });
        of("Returns that of the SYSTEM.", () -> {
            asks(1, system(4, row(1, 2, 3, 4, 5)).then("row", 0, 0, 0, 0, 0).then("undo"), "ofSystem", 1);
            changesNothing(full(), "ofSystem", 5);
        });
        of("Throws `IllegalArgumentException` if what is not 0 to 5", () -> bounds(ARGUMENT, 0, 5, 0, "ofSystem", 0));
        inPromise(12);
        of("- `place`: a row of FORM", () -> askForm(system(2, row(0, 0, 0), row(2, 0, 1), row(3, 0, 1), row(0, 0, 1)),
                "1 0 0", "0 0 1", "0 0 0", "0 0 0"));
        of("Returns it as a ROW OF NUMBERS.", () -> {
            asks("1 -999", system(1, row(1, -999)), "form", 0);
            asks("0 0 0 0 0", system(4, row(0, 0, 0, 0, 0)), "form", 0);
            asks("20 -20 20 -20 999", system(4, row(20, -20, 20, -20, 999)), "form", 0);
            changesNothing(full(), "form", 3);
        });
        of("Throws `IndexOutOfBoundsException` if there is no such ROW in the SYSTEM", () -> {
            boundsFor(fourRows(), INDEX, 0, 3, 0, "form", 0);
            boundsFor(halfway(), INDEX, 0, 1, 0, "form", 0);
            boundsFor(system(1, row(5, 5)), INDEX, 0, 0, 0, "form", 0);
            refused(INDEX, fresh(), "form", 0);
            refused(INDEX, fresh(), "form", -1);
            refused(INDEX, fourRows().then("unknowns", 1), "form", 0);
        });
        inPromise(13);
        of("- `n`: the number of an ACT", () -> askActs(system(1, row(5, 0), row(2, 0), row(7, 0)),
                "0-2*1", "2-3*1", "1-2*0", "2-1*0"));
        of("Returns the ACT: row, \"-\", q, \"*\", row for q times the second row taken off the first (q below 0 in brackets: "
                + "\"1-(-3)*0\"); both rows with \"~\" between for an exchange, the smaller one first (\"0~2\"); \"!\" and the row "
                + "for signs that are turned (\"!1\").", () -> {
            askActs(system(1, row(1, 0), row(-3, 0)), "1-(-3)*0");
            askActs(system(1, row(1, 0), row(3, 0)), "1-3*0");
            askActs(system(1, row(1, 0), row(-1, 0)), "1-(-1)*0");
            askActs(system(1, row(1, 0), row(1, 0)), "1-1*0");
            askActs(system(1, row(0, 0), row(0, 0), row(3, 0)), "0~2");
            askActs(system(1, row(0, 0), row(0, 0), row(0, 0), row(3, 0)), "0~3");
            askActs(system(2, row(1, 0, 0), row(0, -2, 0)), "!1");
            askActs(system(3, row(1, 0, 0, 0), row(0, 1, 0, 0), row(0, 0, 0, 0), row(0, 0, -1, 0)), "2~3", "!2");
            askActs(system(1, row(0, -999), row(1, 0)), "0~1", "!1");
            asks("1-(-999)*0", system(1, row(0, 1), row(0, -999)), "act", 0);
            changesNothing(full(), "act", 0);
        });
        of("Throws `IndexOutOfBoundsException` if there is no such ACT", () -> {
            boundsFor(system(1, row(5, 0), row(2, 0), row(7, 0)), INDEX, 0, 3, 0, "act", 0);
            boundsFor(full(), INDEX, 0, full().madeByReference().ofSystem(5) - 1, 0, "act", 0);
            boundsFor(halfway(), INDEX, 0, halfway().madeByReference().ofSystem(5) - 1, 0, "act", 0);
            boundsFor(system(1, row(-1, 0)), INDEX, 0, 0, 0, "act", 0);
            refused(INDEX, fresh(), "act", 0);
            refused(INDEX, fresh(), "act", -1);
            refused(INDEX, system(1, row(1, 0)), "act", 0);
            refused(INDEX, system(1, row(-1, 0)).then("changeRow", 0, 0, 1), "act", 0);
        });
        inPromise(14);
        of("Returns the DIAGONAL as a ROW OF NUMBERS (\"\" if it has none).", () -> {
            asks("", fresh(), "diagonal");
            asks("", system(4, row(0, 0, 0, 0, 999)), "diagonal");
            asks("1", system(4, row(1, 0, 0, 0, 999)), "diagonal");
            asks("1 1 1 160000", system(4, row(20, 1, 0, 0, 0), row(0, 20, 1, 0, 0), row(0, 0, 20, 1, 0), row(0, 0, 0, 20, 0)),
                    "diagonal");
            changesNothing(full(), "diagonal");
        });
    }

    private static void answersAndBasis() {
        inPromise(15);
        of("Returns the ANSWER of the SYSTEM as a ROW OF NUMBERS; \"none\" if there is none.", () -> {
            asks("0", system(1), "answer");
            asks("0 0", fresh(), "answer");
            asks("0 0 0 0", system(4), "answer");
            asks("none", system(4, row(0, 0, 0, 0, 1)), "answer");
            asks("none", system(2, row(2, 4, 3)), "answer");
            asks("1 0 1", threeUnknowns(), "answer");
            asks("none", threeUnknowns().then("changeRow", 0, 3, 5), "answer");
            asks("1 0 1", threeUnknowns().then("changeRow", 0, 3, 5).then("undo"), "answer");
            changesNothing(full(), "answer");
        });
        inPromise(16);
        of("- `place`: a row of BASIS", () -> askBasis(system(4), "1 0 0 0", "0 1 0 0", "0 0 1 0", "0 0 0 1"));
        of("Returns it as a ROW OF NUMBERS.", () -> {
            asks("1", system(1), "basis", 0);
            asks("2 -4 3", threeUnknowns(), "basis", 0);
            // also without an ANSWER
            asks("2 -1", system(2, row(2, 4, 3)), "basis", 0);
            changesNothing(threeUnknowns(), "basis", 0);
        });
        of("Throws `IndexOutOfBoundsException` if BASIS has no such row", () -> {
            boundsFor(fresh(), INDEX, 0, 1, 0, "basis", 0);
            boundsFor(system(4), INDEX, 0, 3, 0, "basis", 0);
            boundsFor(system(1), INDEX, 0, 0, 0, "basis", 0);
            boundsFor(halfway(), INDEX, 0, 0, 0, "basis", 0);
            refused(INDEX, system(1, row(1, 3)), "basis", 0);
            refused(INDEX, system(1, row(2, 3)), "basis", -1);
            refused(INDEX, system(2, row(1, 2, 3), row(1, 3, 3)), "basis", 0);
        });
    }

    private static void cubeAndPaper() {
        inPromise(17);
        of("- `side`: a number", () -> {
            asks(1, system(4), "inCube", 0);
            asks(13 * 13 * 13 * 13, system(4), "inCube", 6);
        });
        of("Returns how many ANSWERS of the SYSTEM have only numbers from -side to side.", () -> {
            for (int side = 0; side <= 6; side++) {
                int edge = 2 * side + 1;
                asks(edge, system(1), "inCube", side);
                asks(edge * edge, fresh(), "inCube", side);
                asks(edge * edge * edge, system(3, row(0, 0, 0, 0)), "inCube", side);
                asks(0, system(4, row(0, 0, 0, 0, 1)), "inCube", side);
                asks(edge, system(2, row(1, -1, 0)), "inCube", side);
                // the only ANSWERS are at the side 3, and -3
                asks(side < 3 ? 0 : 1, system(1, row(6, 18)), "inCube", side);
                asks(side < 3 ? 0 : 1, system(1, row(6, -18)), "inCube", side);
                asks(side < 3 ? 0 : 1, system(2, row(1, 0, 1), row(0, 1, -3)), "inCube", side);
                // x + y = 6
                asks(side < 3 ? 0 : 2 * side - 5, system(2, row(1, 1, 6)), "inCube", side);
            }
            asks(1, system(4, row(1, 1, 1, 1, 24)), "inCube", 6);
            asks(0, system(4, row(1, 1, 1, 1, 25)), "inCube", 6);
            asks(4, system(4, row(1, 1, 1, 1, -23)), "inCube", 6);
            asks(0, system(1, row(1, 7)), "inCube", 6);
            asks(0, system(2, row(2, 4, 3)), "inCube", 6);
            changesNothing(full(), "inCube", 6);
        });
        of("Throws `IllegalArgumentException` if side is not 0 to 6", () -> bounds(ARGUMENT, 0, 6, 0, "inCube", 0));
        inPromise(18);
        of("Returns PAPER as a ROW OF NUMBERS, a fraction as \"n/d\" with the least d above 1 that there is (\"-1/2\" below 0), a "
                + "whole one as a number; \"\" without a FAULT.", () -> {
            asks("", fresh(), "paper");
            asks("", threeUnknowns(), "paper");
            asks("1/2", system(2, row(2, 4, 3)), "paper");
            asks("0 1/2", system(2, row(0, 0, 0), row(0, 0, 1)), "paper");
            asks("-1/2", system(1, row(0, -1)), "paper");
            asks("-1 1/2", system(1, row(1, 3), row(2, 7)), "paper");
            asks("1 -1/2", system(1, row(1, 3), row(2, 5)), "paper");
            // 3/6 is told as 1/2, 4/20 as 1/5, 2/2 as 1
            asks("-1/2 1/6", system(1, row(1, 1), row(3, 6)), "paper");
            asks("-1/5 1/20", system(1, row(1, 1), row(4, 14)), "paper");
            asks("-5/2 1/2", system(1, row(1, 1), row(5, 6)), "paper");
            asks("5/2 -1/2", system(1, row(1, 1), row(5, 4)), "paper");
            asks("-10 1/2", system(1, row(1, 1), row(20, 21)), "paper");
            changesNothing(full(), "paper");
        });
        inPromise(19);
        of("- `a`: for the UNKNOWN 0 - `b`: for 1 - `c`: for 2 - `d`: for 3 (those of UNKNOWNS that there are not are not looked "
                + "at)", () -> {
            int most = Integer.MAX_VALUE;
            int least = Integer.MIN_VALUE;
            asks(true, fresh(), "isMet", most, least, most, least);
            asks(true, system(1, row(1, 3)), "isMet", 3, most, least, 7);
            asks(true, system(2, row(1, 2, 3)), "isMet", 1, 1, least, 7);
            asks(true, system(3, row(1, 2, 3, 6)), "isMet", 1, 1, 1, least);
            asks(true, system(4, row(1, 2, 3, 4, 10)), "isMet", 1, 1, 1, 1);
            for (int unknown = 0; unknown < 4; unknown++) {
                int[] x = {1, 1, 1, 1};
                x[unknown] = 2;
                asks(false, system(4, row(1, 2, 3, 4, 10)), "isMet", x[0], x[1], x[2], x[3]);
                asks(unknown == 3, system(3, row(1, 2, 3, 6)), "isMet", x[0], x[1], x[2], x[3]);
                asks(unknown >= 2, system(2, row(1, 2, 3)), "isMet", x[0], x[1], x[2], x[3]);
                asks(unknown >= 1, system(1, row(1, 1)), "isMet", x[0], x[1], x[2], x[3]);
            }
        });
        of("Returns whether that is an ANSWER of the SYSTEM.", () -> {
            int most = Integer.MAX_VALUE;
            int least = Integer.MIN_VALUE;
            asks(true, fresh(), "isMet", 7, 8, 9, 10);
            asks(true, system(1, row(0, 0)), "isMet", 7, 8, 9, 10);
            asks(false, system(1, row(0, 1)), "isMet", 7, 8, 9, 10);
            asks(true, threeUnknowns(), "isMet", 3, -4, 4, 0);
            // one ROW of four that is not met, first or last
            Recipe four = system(1, row(1, 2), row(2, 4), row(3, 6), row(4, 8));
            asks(true, four, "isMet", 2, 0, 0, 0);
            for (int place = 0; place < 4; place++) {
                asks(false, four.then("changeRow", place, 1, 9), "isMet", 2, 0, 0, 0);
            }
            // sums that an int, and four of them that 34 bits would not hold
            asks(false, system(4, row(20, 20, 20, 20, -80)), "isMet", most, most, most, most);
            asks(true, system(4, row(20, 20, 20, 20, -40)), "isMet", most, most, least, least);
            asks(false, system(4, row(-20, -20, -20, -20, 0)), "isMet", least, least, least, least);
            asks(true, system(4, row(-20, -20, 20, 20, 0)), "isMet", least, least, least, least);
            changesNothing(full(), "isMet", most, least, 0, 1);
        });
    }
}
