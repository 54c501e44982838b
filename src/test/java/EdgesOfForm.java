/** Section 2 of the document: the STEP FORM, seen by FORM and ACTS of a SYSTEM. */
final class EdgesOfForm extends Edges {
    private EdgesOfForm() {
    }

    static void run() {
        in("2");
        tables();
        pivots();
        steps();
        ends();
    }

    private static void tables() {
        of("A TABLE has rows of equally many numbers, rows and columns numbered from 0.", () -> {
            askForm(fresh());
            askForm(system(1, row(0, 0)), "0 0");
            askForm(system(4, row(1, 0, 0, 0, 5), row(0, 1, 0, 0, 6), row(0, 0, 1, 0, 7), row(0, 0, 0, 1, 8)),
                    "1 0 0 0 5", "0 1 0 0 6", "0 0 1 0 7", "0 0 0 1 8");
            askActs(system(1, row(0, 0), row(0, 0), row(0, 0), row(-1, 0)), "0~3", "!0");
        });
        of("ACTS on it: to take a multiple of a row off another one; to exchange two rows; to turn the signs of a row.", () -> {
            Recipe all = system(2, row(0, 3, 1), row(-2, 5, 7));
            askActs(all, "0~1", "!0", "0-(-2)*1");
            askForm(all, "2 1 -5", "0 3 1");
            asks("0-1*1", system(1, row(6, 0), row(4, 0)), "act", 0);
        });
        of("The STEP FORM of a TABLE comes by these ACTS, with r = 0 at first, column j by column:", () -> {
            askActs(system(3, row(0, 0, 3, 0), row(0, -2, 0, 0), row(1, 0, 0, 0)), "0~2", "!1");
            askActs(system(3, row(0, 0, 3, 0), row(1, 0, 0, 0), row(0, -2, 0, 0)), "0~1", "1~2", "!1");
            askForm(system(3, row(0, 0, 3, 0), row(1, 0, 0, 0), row(0, -2, 0, 0)), "1 0 0 0", "0 2 0 0", "0 0 3 0");
        });
    }

    private static void pivots() {
        of("(a) As long as two or more of the rows r and behind have a number other than 0 in the column j:", () -> {
            // none, one and two of them
            askActs(system(1, row(0, 0), row(0, 0)));
            askActs(system(1, row(4, 0), row(0, 0)));
            askActs(system(1, row(6, 0), row(4, 0)), "0-1*1", "1-2*0");
            askForm(system(1, row(6, 0), row(4, 0)), "2 0", "0 0");
            // a row ahead of r does not count, also if it has the least number
            askActs(system(2, row(1, 3, 0), row(0, 5, 0)));
            askActs(system(2, row(1, 1, 0), row(0, 6, 0), row(0, 4, 0)), "1-1*2", "2-2*1");
        });
        of("the PIVOT is that of them with the least such number without its sign (of several the smallest row);", () -> {
            askActs(system(1, row(-4, 0), row(4, 0), row(4, 0)), "1-(-1)*0", "2-(-1)*0", "!0");
            askActs(system(1, row(9, 0), row(4, 0), row(-4, 0)), "0-2*1", "2-(-1)*1", "1-4*0");
            askActs(system(1, row(9, 0), row(-3, 0), row(4, 0)), "0-(-3)*1", "2-(-1)*1", "1-(-3)*2", "0~2");
            // 0 is not the least
            askActs(system(1, row(0, 0), row(20, 0), row(-19, 0)), "1-(-1)*2", "2-(-19)*1", "0~1");
        });
        of("from each other one of them, i by i, q times the PIVOT is taken off, q being the number of the row i there "
                + "divided by that of the PIVOT towards 0.", () -> {
            askActs(system(1, row(7, 0), row(-7, 0), row(3, 0)), "0-2*2", "1-(-2)*2", "1-(-1)*0", "2-3*0");
            askActs(system(1, row(7, 0), row(-3, 0), row(-8, 0)), "0-(-2)*1", "2-2*1", "1-(-3)*0", "2-(-2)*0");
            askActs(system(1, row(20, 0), row(-20, 0), row(1, 0)), "0-20*2", "1-(-20)*2", "0~2");
            askActs(system(1, row(20, 0), row(-20, 0), row(-1, 0)), "0-(-20)*2", "1-20*2", "0~2", "!0");
            // of a row that has 0 there nothing is taken off
            askActs(system(1, row(2, 0), row(0, 0), row(4, 0)), "2-2*0");
            // the RIGHT side goes along
            askForm(system(1, row(7, 1), row(-7, 5), row(3, 2)), "1 0", "0 1", "0 0");
        });
    }

    private static void steps() {
        of("(b) If none of the rows r and behind has a number other than 0 there, the next column comes.", () -> {
            askForm(system(3, row(0, 0, 2, 5), row(0, 0, 0, 0)), "0 0 2 5", "0 0 0 0");
            askActs(system(2, row(2, 4, 6), row(1, 2, 3)), "0-2*1", "0~1");
            askForm(system(2, row(2, 4, 6), row(1, 2, 3)), "1 2 3", "0 0 0");
            askForm(system(3, row(1, 2, 0, 0), row(2, 4, 3, 0)), "1 2 0 0", "0 0 3 0");
            // also the RIGHT sides are such a column
            askActs(system(1, row(0, 1), row(4, 2), row(0, 3)), "0~1", "2-3*1", "0-2*1");
            askForm(system(1, row(0, 1), row(4, 2), row(0, 3)), "4 0", "0 1", "0 0");
            askForm(system(4, row(0, 0, 0, 0, -7)), "0 0 0 0 7");
        });
        of("Otherwise, the one that has is exchanged with the row r, if it is not that;", () -> {
            askActs(system(1, row(5, 0), row(0, 0)));
            askActs(system(1, row(0, 0), row(5, 0)), "0~1");
            askActs(system(1, row(0, 0), row(0, 0), row(0, 0), row(5, 1)), "0~3");
            askActs(system(2, row(1, 0, 0), row(0, 0, 0), row(0, 5, 0)), "1~2");
            askForm(system(2, row(1, 0, 0), row(0, 0, 0), row(0, 5, 0)), "1 0 0", "0 5 0", "0 0 0");
        });
        of("then its signs are turned, if that number is below 0;", () -> {
            askActs(system(1, row(-1, 9)), "!0");
            askForm(system(1, row(-1, 9)), "1 -9");
            askActs(system(1, row(1, -9)));
            askForm(system(1, row(1, -9)), "1 -9");
            askForm(system(2, row(-20, 0, 0)), "20 0 0");
            askActs(system(1, row(0, -999)), "!0");
            askForm(system(1, row(0, -999)), "0 999");
        });
        of("then, from each row i ahead of r, i by i, q times the row r is taken off, q being FLOOR of its number there "
                + "divided by that of the row r, if q is not 0.", () -> {
            askActs(system(2, row(4, 9, 1), row(0, -2, 3)), "!1", "0-4*1");
            askForm(system(2, row(4, 9, 1), row(0, -2, 3)), "4 1 13", "0 2 -3");
            askActs(system(3, row(1, 0, -5, 0), row(0, 1, 7, 0), row(0, 0, 2, 0)), "0-(-3)*2", "1-3*2");
            askForm(system(3, row(1, 0, -5, 0), row(0, 1, 7, 0), row(0, 0, 2, 0)), "1 0 1 0", "0 1 1 0", "0 0 2 0");
            askActs(system(3, row(1, 0, 1, 0), row(0, 1, -1, 0), row(0, 0, 2, 0)), "1-(-1)*2");
            askActs(system(2, row(1, 0, 0), row(0, 3, 0)));
            askActs(system(2, row(1, 2, 0), row(0, 3, 0)));
            askActs(system(2, row(1, 3, 0), row(0, 3, 0)), "0-1*1");
            askActs(system(2, row(1, -1, 0), row(0, 20, 0)), "0-(-1)*1");
        });
    }

    private static void ends() {
        of("Then r is one more (and if there is no row r any more, that is all).", () -> {
            askActs(system(2, row(3, -6, -9)));
            askForm(system(2, row(3, -6, -9)), "3 -6 -9");
            askForm(system(2, row(0, -6, -9)), "0 6 9");
            // the RIGHT side of the row 0 stays, as no row comes to it
            askForm(system(1, row(1, 999), row(0, 0)), "1 999", "0 0");
            askForm(system(1, row(1, 999), row(0, -5)), "1 4", "0 5");
            askForm(system(4, row(1, 0, 0, 20, 999), row(0, 1, 0, -20, -999), row(0, 0, 1, 7, 5)),
                    "1 0 0 20 999", "0 1 0 -20 -999", "0 0 1 7 5");
        });
        of("The rows ahead of r at the end are the PIVOT ROWS, the others have 0 alone.", () -> {
            askForm(system(2, row(1, 2, 3), row(2, 4, 6), row(-1, -2, -3), row(3, 6, 9)),
                    "1 2 3", "0 0 0", "0 0 0", "0 0 0");
            askForm(system(2, row(0, 0, 0), row(0, 0, 0)), "0 0 0", "0 0 0");
            askForm(system(1, row(2, 1), row(2, 2), row(2, 3), row(2, 4)), "2 0", "0 1", "0 0", "0 0");
        });
        of("The PLACE of a PIVOT ROW is the first column in which it has a number other than 0.", () -> {
            // the ANSWER has 0 to 2 at the PLACE 0 of the BASIS row 3 -2 0, and 0 at the PLACE 2 of 0 0 1
            askBasis(system(3, row(2, 3, 0, 7)), "3 -2 0", "0 0 1");
            asks("2 1 0", system(3, row(2, 3, 0, 7)), "answer");
            askBasis(system(3, row(1, 0, 0, 5)), "0 1 0", "0 0 1");
            asks("5 0 0", system(3, row(1, 0, 0, 5)), "answer");
            askBasis(system(3, row(0, 0, 4, -8)), "1 0 0", "0 1 0");
            asks("0 0 -2", system(3, row(0, 0, 4, -8)), "answer");
        });
        of("RANK: how many PIVOT ROWS there are.", () -> {
            asks(0, fresh(), "ofSystem", 2);
            asks(0, system(4, row(0, 0, 0, 0, 1), row(0, 0, 0, 0, 2)), "ofSystem", 2);
            asks(1, system(2, row(1, 2, 3), row(2, 4, 5), row(-3, -6, 0), row(0, 0, 1)), "ofSystem", 2);
            asks(2, system(2, row(1, 2, 3), row(2, 5, 5), row(3, 6, 0)), "ofSystem", 2);
            asks(3, system(4, row(1, 2, 3, 4, 0), row(5, 6, 7, 8, 0), row(1, 0, 0, 0, 0), row(6, 8, 10, 12, 0)),
                    "ofSystem", 2);
            asks(4, system(4, row(0, 0, 0, 20, 0), row(0, 0, -20, 0, 0), row(0, 20, 0, 0, 0), row(-20, 0, 0, 0, 0)),
                    "ofSystem", 2);
        });
    }
}
