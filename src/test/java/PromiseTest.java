import java.util.concurrent.Callable;
import java.util.function.LongConsumer;

/** At least one test of each promise of the document: ordinary inputs, the edges that it names, wrong inputs. */
public final class PromiseTest {
    private static final String ARGUMENT = "IllegalArgumentException";
    private static final String STATE = "IllegalStateException";
    private static final String INDEX = "IndexOutOfBoundsException";

    private static int promise;
    private static int checks;
    private static int wrong;

    private static void due(Object want, Object got) {
        checks++;
        if (!want.equals(got)) {
            wrong++;
            StackTraceElement at = new Throwable().getStackTrace()[1];
            System.out.println("promise " + promise + ", line " + at.getLineNumber() + ": due is " + want + ", got " + got);
        }
    }

    private static void thrown(String want, Callable<?> call) {
        checks++;
        String got;
        try {
            got = "the answer " + call.call();
        } catch (Exception e) {
            got = e.getClass().getSimpleName();
        }
        if (!want.equals(got)) {
            wrong++;
            StackTraceElement at = new Throwable().getStackTrace()[1];
            System.out.println("promise " + promise + ", line " + at.getLineNumber() + ": due is " + want + ", got " + got);
        }
    }

    private static Diophantdesk desk() {
        return new Diophantdesk();
    }

    private static Diophantdesk system(int unknowns, int[]... rows) {
        Diophantdesk desk = desk();
        desk.unknowns(unknowns);
        for (int[] row : rows) {
            desk.row(row[0], row[1], row[2], row[3], row[4]);
        }
        return desk;
    }

    private static int[] row(int a, int b, int c, int d, int right) {
        return new int[] {a, b, c, d, right};
    }

    private static Diophantdesk coins(int... values) {
        Diophantdesk desk = desk();
        for (int value : values) {
            desk.coin(value);
        }
        return desk;
    }

    private static void newObject() {
        Diophantdesk d = desk();
        for (int what = 0; what <= 5; what++) {
            due(0, d.desk(what));
        }
        due(true, d.isSolvable());
        due(2, d.ofSystem(0));
        due(0, d.ofSystem(1));
        due(0, d.ofCoins(0));
        due(1, d.shortest(0));
        due(3, d.inJug(false, true));
        due(5, d.inJug(true, true));
        due(0, d.inJug(false, false));
        due(0, d.inJug(true, false));
        thrown(STATE, d::undo);
        due(true, d.isSound());
    }

    private static void equation() {
        Diophantdesk d = desk();
        due(2, d.equation(6, 10, 14));
        due(6, d.desk(0));
        due(10, d.desk(1));
        due(14, d.desk(2));
        due(0, d.equation(0, 0, 5));
        due(7, d.equation(0, -7, 1));
        due(9999, d.equation(-9999, 9999, -999999));
        thrown(ARGUMENT, () -> d.equation(10000, 1, 1));
        thrown(ARGUMENT, () -> d.equation(-10000, 1, 1));
        thrown(ARGUMENT, () -> d.equation(1, 10000, 1));
        thrown(ARGUMENT, () -> d.equation(1, -10000, 1));
        thrown(ARGUMENT, () -> d.equation(1, 1, 1000000));
        thrown(ARGUMENT, () -> d.equation(1, 1, -1000000));
        due(-999999, d.desk(2));
        due(4, d.desk(4));
    }

    private static void isSolvable() {
        Diophantdesk d = desk();
        d.equation(6, 10, 14);
        due(true, d.isSolvable());
        d.equation(6, 10, 15);
        due(false, d.isSolvable());
        d.equation(0, 0, 1);
        due(false, d.isSolvable());
        d.equation(0, 5, -10);
        due(true, d.isSolvable());
        d.undo();
        due(false, d.isSolvable());
    }

    private static void along() {
        Diophantdesk d = desk();
        d.equation(6, -10, 14);
        // 6 * 4 - 10 * 1 = 14, and (B / G, -A / G) = (-5, -3)
        due(4, d.along(0, false));
        due(1, d.along(0, true));
        due(-1, d.along(1, false));
        due(-2, d.along(1, true));
        due(5004, d.along(-1000, false));
        due(3001, d.along(-1000, true));
        thrown(ARGUMENT, () -> d.along(1001, true));
        thrown(ARGUMENT, () -> d.along(-1001, true));
        d.equation(-4, 0, 12);
        due(-3, d.along(7, false));
        due(0, d.along(0, true));
        due(7, d.along(7, true));
        d.equation(0, 0, 0);
        due(0, d.along(9, true));
        due(0, d.along(9, false));
        d.equation(9999, 9998, 999999);
        due(9999 * d.along(3, false) + 9998 * d.along(3, true), 999999);
        d.equation(2, 4, 3);
        thrown(STATE, () -> d.along(0, true));
        thrown(ARGUMENT, () -> d.along(1001, true));
    }

    private static void inBox() {
        Diophantdesk d = desk();
        due(2001 * 2001, d.inBox(-1000, 1000, -1000, 1000));
        d.equation(1, 1, 3);
        // (0, 3), (1, 2), (2, 1), (3, 0)
        due(4, d.inBox(0, 9, 0, 9));
        due(2, d.inBox(1, 2, -9, 9));
        due(1, d.inBox(0, 9, 3, 9));
        due(1, d.inBox(1, 1, 2, 2));
        due(0, d.inBox(4, 9, 0, 9));
        d.equation(0, 7, 21);
        due(11, d.inBox(-5, 5, 3, 3));
        due(0, d.inBox(-5, 5, 4, 9));
        d.equation(4, 0, -12);
        due(3, d.inBox(-3, 9, 7, 9));
        due(0, d.inBox(-2, 9, 7, 9));
        d.equation(2, 2, 1);
        due(0, d.inBox(-9, 9, -9, 9));
        d.equation(0, 0, 1);
        due(0, d.inBox(-9, 9, -9, 9));
        thrown(ARGUMENT, () -> d.inBox(1, 0, 0, 0));
        thrown(ARGUMENT, () -> d.inBox(0, 0, 1, 0));
        thrown(ARGUMENT, () -> d.inBox(-1001, 0, 0, 0));
        thrown(ARGUMENT, () -> d.inBox(0, 1001, 0, 0));
        thrown(ARGUMENT, () -> d.inBox(0, 0, -1001, 0));
        thrown(ARGUMENT, () -> d.inBox(0, 0, 0, 1001));
    }

    private static void congruent() {
        Diophantdesk d = desk();
        due(2, d.congruent(6, 14, 10, 0));
        due(4, d.congruent(6, 14, 10, 1));
        due(9, d.congruent(6, 14, 10, 2));
        due(0, d.congruent(6, 15, 10, 0));
        due(-1, d.congruent(6, 15, 10, 1));
        due(-1, d.congruent(6, 15, 10, 2));
        due(5, d.congruent(0, -10, 5, 0));
        due(0, d.congruent(0, -10, 5, 1));
        due(4, d.congruent(0, -10, 5, 2));
        due(2, d.congruent(-1, 5, 7, 1));
        due(9998, d.congruent(-1, 1, 9999, 2));
        due(0, d.congruent(9999, 9999, 1, 2));
        thrown(ARGUMENT, () -> d.congruent(10000, 1, 1, 0));
        thrown(ARGUMENT, () -> d.congruent(-10000, 1, 1, 0));
        thrown(ARGUMENT, () -> d.congruent(1, 10000, 1, 0));
        thrown(ARGUMENT, () -> d.congruent(1, -10000, 1, 0));
        thrown(ARGUMENT, () -> d.congruent(1, 1, 0, 0));
        thrown(ARGUMENT, () -> d.congruent(1, 1, 10000, 0));
        thrown(ARGUMENT, () -> d.congruent(1, 1, 1, 3));
        thrown(ARGUMENT, () -> d.congruent(1, 1, 1, -1));
        due(0, d.desk(4));
    }

    private static void unknowns() {
        Diophantdesk d = system(3, row(1, 2, 3, 0, 4), row(0, 0, 0, 0, 1));
        due(2, d.unknowns(4));
        due(4, d.ofSystem(0));
        due(0, d.ofSystem(1));
        due(0, d.unknowns(1));
        thrown(ARGUMENT, () -> d.unknowns(0));
        thrown(ARGUMENT, () -> d.unknowns(5));
        due(5, d.desk(4));
    }

    private static void tellRow() {
        Diophantdesk d = system(2);
        due(0, d.row(1, -20, 20, 20, 999));
        due("1 -20 999", d.form(0));
        due(1, d.row(0, 0, 0, 0, -999));
        thrown(ARGUMENT, () -> d.row(21, 0, 0, 0, 0));
        thrown(ARGUMENT, () -> d.row(0, -21, 0, 0, 0));
        thrown(ARGUMENT, () -> d.row(0, 0, 21, 0, 0));
        thrown(ARGUMENT, () -> d.row(0, 0, 0, -21, 0));
        thrown(ARGUMENT, () -> d.row(0, 0, 0, 0, 1000));
        thrown(ARGUMENT, () -> d.row(0, 0, 0, 0, -1000));
        due(2, d.row(0, 0, 0, 0, 0));
        due(3, d.row(0, 0, 0, 0, 0));
        thrown(STATE, () -> d.row(0, 0, 0, 0, 0));
        thrown(ARGUMENT, () -> d.row(0, 0, 0, 21, 0));
        due(4, d.ofSystem(1));
    }

    private static void changeRow() {
        Diophantdesk d = system(2, row(3, 4, 5, 6, 7));
        due(3, d.changeRow(0, 0, -20));
        due(4, d.changeRow(0, 1, 20));
        due(7, d.changeRow(0, 2, -999));
        due("20 -20 999", d.form(0));
        due(-999, d.changeRow(0, 2, 999));
        thrown(INDEX, () -> d.changeRow(1, 0, 0));
        thrown(INDEX, () -> d.changeRow(-1, 9, 9999));
        thrown(ARGUMENT, () -> d.changeRow(0, 3, 0));
        thrown(ARGUMENT, () -> d.changeRow(0, -1, 0));
        thrown(ARGUMENT, () -> d.changeRow(0, 1, 21));
        thrown(ARGUMENT, () -> d.changeRow(0, 0, -21));
        thrown(ARGUMENT, () -> d.changeRow(0, 2, 1000));
        thrown(ARGUMENT, () -> d.changeRow(0, 2, -1000));
        due(6, d.desk(4));
    }

    private static void dropRow() {
        Diophantdesk d = system(1, row(1, 0, 0, 0, 1), row(2, 0, 0, 0, 2), row(3, 0, 0, 0, 3));
        thrown(INDEX, () -> d.dropRow(3));
        thrown(INDEX, () -> d.dropRow(-1));
        due(2, d.dropRow(1));
        due(3, d.changeRow(1, 0, 4));
        due(3, d.changeRow(1, 1, 5));
        due(1, d.dropRow(0));
        due("4 5", d.form(0));
        due(0, d.dropRow(0));
        thrown(INDEX, () -> d.dropRow(0));
        due(0, d.row(9, 0, 0, 0, 8));
        due("9 8", d.form(0));
    }

    private static void ofSystem() {
        Diophantdesk d = system(3, row(1, 2, 3, 0, 4), row(2, 4, 6, 0, 8), row(0, 0, 0, 0, 1));
        due(3, d.ofSystem(0));
        due(3, d.ofSystem(1));
        due(1, d.ofSystem(2));
        due(2, d.ofSystem(3));
        due(2, d.ofSystem(4));
        // 1 - 2 * 0, then 1 ~ 2, then 4 times the row 1 off the row 0
        due(3, d.ofSystem(5));
        d.dropRow(2);
        due(-1, d.ofSystem(4));
        d.changeRow(1, 3, 9);
        due(1, d.ofSystem(4));
        thrown(ARGUMENT, () -> d.ofSystem(6));
        thrown(ARGUMENT, () -> d.ofSystem(-1));
    }

    private static void form() {
        Diophantdesk d = system(3, row(2, 4, 4, 0, 6), row(-6, 6, 12, 9, 6));
        due("2 4 4 6", d.form(0));
        due("0 18 24 24", d.form(1));
        thrown(INDEX, () -> d.form(2));
        thrown(INDEX, () -> d.form(-1));
        Diophantdesk e = system(2, row(0, 0, 0, 0, -3), row(0, 5, 0, 0, 7), row(0, 0, 0, 0, 0));
        due("0 5 1", e.form(0));
        due("0 0 3", e.form(1));
        due("0 0 0", e.form(2));
        thrown(INDEX, () -> desk().form(0));
    }

    private static void act() {
        Diophantdesk d = system(2, row(-3, 1, 0, 0, 1), row(7, 0, 0, 0, 5));
        // 7 / -3 is -2: 1 -3; then -3 / 1 is -3: 0, so 1 ~ 0
        due("1-(-2)*0", d.act(0));
        due("0-(-3)*1", d.act(1));
        due("0~1", d.act(2));
        // (1, 2, 7) stands first, (0, 7, 22) behind it: 2 / 7 is 0, so nothing more
        thrown(INDEX, () -> d.act(3));
        thrown(INDEX, () -> d.act(-1));
        due("1 2 7", d.form(0));
        due("0 7 22", d.form(1));
        Diophantdesk e = system(2, row(4, 9, 0, 0, 1), row(0, -2, 0, 0, 3));
        due("!1", e.act(0));
        due("0-4*1", e.act(1));
        due(2, e.ofSystem(5));
        due("4 1 13", e.form(0));
        Diophantdesk f = system(1, row(0, 0, 0, 0, 0));
        thrown(INDEX, () -> f.act(0));
        // of two as small the smaller row is the PIVOT
        due("1-(-1)*0", system(1, row(5, 0, 0, 0, 0), row(-5, 0, 0, 0, 0)).act(0));
    }

    private static void diagonal() {
        due("", desk().diagonal());
        due("2 6", system(3, row(2, 4, 4, 0, 6), row(-6, 6, 12, 0, 6)).diagonal());
        due("1 6", system(2, row(2, 0, 0, 0, 0), row(0, 3, 0, 0, 0)).diagonal());
        due("1", system(2, row(2, 4, 0, 0, 3), row(1, 2, 0, 0, 5)).diagonal());
        due("", system(2, row(0, 0, 0, 0, 3)).diagonal());
        due("20 20 20 20", system(4, row(20, 0, 0, 0, 1), row(0, 20, 0, 0, 1), row(0, 0, 20, 0, 1),
                row(0, 0, 0, -20, 1)).diagonal());
    }

    private static void answer() {
        due("0 0", desk().answer());
        due("1 0 1", system(3, row(2, 4, 4, 0, 6), row(-6, 6, 12, 0, 6)).answer());
        due("none", system(2, row(2, 4, 0, 0, 3)).answer());
        due("none", system(2, row(0, 0, 0, 0, 3)).answer());
        due("0 2", system(2, row(2, 4, 0, 0, 8)).answer());
        due("16 1 -7 1", system(4, row(3, 6, 9, 12, 3), row(6, 10, 15, 0, 1)).answer());
        due("-3", system(1, row(-6, 0, 0, 0, 18)).answer());
    }

    private static void basis() {
        due("1 0", desk().basis(0));
        due("0 1", desk().basis(1));
        thrown(INDEX, () -> desk().basis(2));
        thrown(INDEX, () -> desk().basis(-1));
        Diophantdesk d = system(4, row(3, 6, 9, 12, 3), row(6, 10, 15, 0, 1));
        due("20 0 -8 1", d.basis(0));
        due("0 3 -2 0", d.basis(1));
        thrown(INDEX, () -> d.basis(2));
        due("2 -1", system(2, row(2, 4, 0, 0, 3)).basis(0));
        thrown(INDEX, () -> system(1, row(1, 0, 0, 0, 3)).basis(0));
    }

    private static void inCube() {
        due(1, desk().inCube(0));
        due(169, desk().inCube(6));
        due(13 * 13 * 13 * 13, system(4).inCube(6));
        Diophantdesk d = system(3, row(2, 4, 4, 0, 6), row(-6, 6, 12, 0, 6));
        due(1, d.inCube(3));
        due(3, d.inCube(4));
        // x + y + z = 0 in -1 to 1: 0 and the six orders of 1, 0, -1
        due(7, system(3, row(1, 1, 1, 0, 0)).inCube(1));
        due(0, system(2, row(2, 4, 0, 0, 3)).inCube(6));
        Diophantdesk one = system(1, row(6, 0, 0, 0, 18));
        due(0, one.inCube(2));
        due(1, one.inCube(3));
        thrown(ARGUMENT, () -> d.inCube(7));
        thrown(ARGUMENT, () -> d.inCube(-1));
    }

    private static void paper() {
        due("", desk().paper());
        due("", system(2, row(2, 4, 0, 0, 8)).paper());
        due("1/2", system(2, row(2, 4, 0, 0, 3)).paper());
        due("-1/4 1/2", system(2, row(2, 4, 0, 0, 8), row(1, 2, 0, 0, 5)).paper());
        due("0 0 0 1/14", system(4, row(3, 6, 9, 12, 3), row(6, 10, 15, 0, 1), row(0, 0, 0, 0, 0),
                row(0, 0, 0, 0, 7)).paper());
        due("-1/6", system(1, row(0, 0, 0, 0, -3)).paper());
        due("-5/6 0 1/2", system(1, row(6, 0, 0, 0, 18), row(4, 0, 0, 0, 12), row(10, 0, 0, 0, 31)).paper());
        // x = 3 and 2x = 7: the ROW 1 is short by 1, so 1 / 2 of it less the ROW 0
        due("-1 1/2", system(1, row(1, 0, 0, 0, 3), row(2, 0, 0, 0, 7)).paper());
    }

    private static void isMet() {
        due(true, desk().isMet(7, 8, 9, 10));
        Diophantdesk d = system(3, row(2, 4, 4, 0, 6), row(-6, 6, 12, 0, 6));
        due(true, d.isMet(1, 0, 1, 5));
        due(true, d.isMet(3, -4, 4, Integer.MIN_VALUE));
        due(false, d.isMet(1, 1, 1, 0));
        Diophantdesk e = system(4, row(16, 0, 0, 16, 0));
        // 16 times each is a multiple of 2 ^ 32, so that an int would be 0
        due(false, e.isMet(1 << 28, 0, 0, 0));
        due(true, e.isMet(1 << 28, 5, 5, -(1 << 28)));
        due(false, system(1, row(0, 0, 0, 0, 1)).isMet(0, 0, 0, 0));
        for (int unknowns = 1; unknowns <= 4; unknowns++) {
            Diophantdesk f = system(unknowns, row(1, 2, 3, 4, 5 - unknowns));
            int[] x = {0, 0, 0, 0};
            x[0] = 5 - unknowns;
            due(true, f.isMet(x[0], unknowns > 1 ? 0 : 7, unknowns > 2 ? 0 : 7, unknowns > 3 ? 0 : 7));
            x[unknowns - 1]++;
            due(false, f.isMet(x[0], x[1], x[2], x[3]));
        }
    }

    private static void coin() {
        Diophantdesk d = desk();
        due(181, d.coin(5));
        due(897, d.coin(3));
        thrown(STATE, () -> d.coin(5));
        thrown(ARGUMENT, () -> d.coin(0));
        thrown(ARGUMENT, () -> d.coin(31));
        due(901, d.coin(1));
        due(901, d.coin(30));
        due(901, d.coin(29));
        thrown(STATE, () -> d.coin(2));
        thrown(ARGUMENT, () -> d.coin(31));
        due(5, d.ofCoins(0));
        due(5, d.desk(4));
    }

    private static void uncoin() {
        Diophantdesk d = coins(3, 5);
        due(181, d.uncoin(3));
        thrown(STATE, () -> d.uncoin(3));
        thrown(ARGUMENT, () -> d.uncoin(0));
        thrown(ARGUMENT, () -> d.uncoin(31));
        due(1, d.uncoin(5));
        due(0, d.ofCoins(0));
        due(1, coins(1).uncoin(1));
        due(1, coins(30).uncoin(30));
        due(4, d.desk(4));
    }

    private static void canPay() {
        Diophantdesk d = coins(3, 5);
        due(true, d.canPay(0));
        due(false, d.canPay(7));
        due(true, d.canPay(8));
        due(true, d.canPay(900));
        due(true, desk().canPay(0));
        due(false, desk().canPay(1));
        thrown(ARGUMENT, () -> d.canPay(901));
        thrown(ARGUMENT, () -> d.canPay(-1));
    }

    private static void payNext() {
        Diophantdesk d = coins(3, 5);
        due(8, d.payNext(7, true));
        due(6, d.payNext(7, false));
        due(9, d.payNext(9, true));
        due(9, d.payNext(9, false));
        due(0, d.payNext(0, true));
        due(900, d.payNext(900, true));
        due(0, desk().payNext(900, false));
        due(-1, desk().payNext(1, true));
        due(-1, coins(29).payNext(900, true));
        due(899, coins(29).payNext(900, false));
        thrown(ARGUMENT, () -> d.payNext(901, false));
        thrown(ARGUMENT, () -> d.payNext(-1, true));
    }

    private static void payable() {
        Diophantdesk d = coins(3, 5);
        due(7, d.payable(0, 10));
        due(0, d.payable(7, 7));
        due(1, d.payable(8, 8));
        due(897, d.payable(0, 900));
        due(1, d.payable(0, 0));
        due(1, d.payable(900, 900));
        due(-9, d.payable(5, 4));
        thrown(ARGUMENT, () -> d.payable(901, 900));
        thrown(ARGUMENT, () -> d.payable(0, -1));
        thrown(ARGUMENT, () -> d.payable(-1, 5));
        due(2, d.desk(4));
    }

    private static void ofCoins() {
        int[] none = {0, -1, -1, 0, -1, -1};
        int[] one = {1, 1, 1, 1, -1, 0};
        int[] threeFive = {2, 3, 5, 1, 7, 4};
        int[] even = {2, 4, 30, 2, -1, -1};
        int[] six = {3, 6, 15, 1, 29, 15};
        int[] great = {2, 29, 30, 1, 811, 406};
        for (int what = 0; what <= 5; what++) {
            due(none[what], desk().ofCoins(what));
            due(one[what], coins(1).ofCoins(what));
            due(threeFive[what], coins(5, 3).ofCoins(what));
            due(even[what], coins(30, 4).ofCoins(what));
            due(six[what], coins(10, 6, 15).ofCoins(what));
            due(great[what], coins(30, 29).ofCoins(what));
        }
        thrown(ARGUMENT, () -> desk().ofCoins(6));
        thrown(ARGUMENT, () -> desk().ofCoins(-1));
    }

    private static void ways() {
        Diophantdesk d = coins(3, 5);
        due(1, d.ways(0));
        due(2, d.ways(15));
        due(0, d.ways(7));
        due(21, d.ways(300));
        due(1, desk().ways(0));
        due(0, desk().ways(5));
        due(1, coins(1).ways(300));
        due(9, coins(1, 5, 10, 25).ways(20));
        thrown(ARGUMENT, () -> d.ways(301));
        thrown(ARGUMENT, () -> d.ways(-1));
        d.coin(1);
        // 5 + 3, 5 and three 1; without 5 none, one or two 3
        due(5, d.ways(8));
    }

    private static void fewest() {
        Diophantdesk d = coins(3, 5);
        due(0, d.fewest(0));
        due(3, d.fewest(15));
        due(-1, d.fewest(7));
        due(180, d.fewest(900));
        // not the greatest first: 3 + 3, and not 4 + 1 + 1
        due(2, coins(1, 3, 4).fewest(6));
        due(-1, desk().fewest(1));
        thrown(ARGUMENT, () -> d.fewest(901));
        thrown(ARGUMENT, () -> d.fewest(-1));
    }

    private static void lattice() {
        Diophantdesk d = desk();
        due(7, d.lattice(7, 0, 3, 1));
        due(7, d.lattice(3, 1, 7, 0));
        due(2 * 99 * 99, d.lattice(99, 99, -99, 99));
        thrown(STATE, () -> d.lattice(1, 2, 2, 4));
        thrown(STATE, () -> d.lattice(0, 0, 1, 1));
        thrown(ARGUMENT, () -> d.lattice(100, 0, 0, 1));
        thrown(ARGUMENT, () -> d.lattice(1, -100, 0, 1));
        thrown(ARGUMENT, () -> d.lattice(1, 0, 100, 0));
        thrown(ARGUMENT, () -> d.lattice(100, 0, 100, -100));
        due(2 * 99 * 99, d.shortest(0));
        due(3, d.desk(4));
    }

    private static void shortest() {
        int[] square = {1, 1, 1, 4};
        int[] seven = {7, 5, 10, 2};
        int[] thin = {1, 1, 1, 4};
        for (int what = 0; what <= 3; what++) {
            Diophantdesk d = desk();
            due(square[what], d.shortest(what));
            d.lattice(7, 0, 3, 1);
            due(seven[what], d.shortest(what));
            d.lattice(99, 98, 98, 97);
            due(thin[what], d.shortest(what));
        }
        Diophantdesk d = desk();
        d.lattice(2, 0, 1, 50);
        due(4, d.shortest(1));
        due(2501, d.shortest(2));
        due(2, d.shortest(3));
        thrown(ARGUMENT, () -> d.shortest(4));
        thrown(ARGUMENT, () -> d.shortest(-1));
    }

    private static void nearest() {
        Diophantdesk d = desk();
        due(0, d.nearest(5, 5, 0));
        due(5, d.nearest(5, 4, 1));
        due(4, d.nearest(5, 4, 2));
        d.lattice(7, 0, 3, 1);
        due(1, d.nearest(2, 2, 0));
        due(2, d.nearest(2, 2, 1));
        due(3, d.nearest(2, 2, 2));
        due(1, d.nearest(2, 2, 3));
        d.lattice(2, 0, 0, 2);
        due(2, d.nearest(1, 1, 0));
        due(0, d.nearest(1, 1, 1));
        due(0, d.nearest(1, 1, 2));
        due(4, d.nearest(1, 1, 3));
        int[][] turnedArrows = {{0, 2, 2, 0}, {-2, 0, 0, -2}, {0, -2, -2, 0}, {2, 0, 0, -2}, {-2, 0, 0, 2}, {2, 2, 4, 2}};
        for (int[] a : turnedArrows) {
            d.lattice(a[0], a[1], a[2], a[3]);
            due(-6, d.nearest(-5, 7, 1));
            due(6, d.nearest(-5, 7, 2));
            due(4, d.nearest(-5, 7, 3));
        }
        due(-2, d.nearest(-1, 0, 1));
        due(2, d.nearest(-1, 0, 3));
        due(-1000, d.nearest(-999, -999, 2));
        thrown(ARGUMENT, () -> d.nearest(1000, 0, 0));
        thrown(ARGUMENT, () -> d.nearest(-1000, 0, 0));
        thrown(ARGUMENT, () -> d.nearest(0, 1000, 0));
        thrown(ARGUMENT, () -> d.nearest(0, -1000, 0));
        thrown(ARGUMENT, () -> d.nearest(0, 0, 4));
        thrown(ARGUMENT, () -> d.nearest(0, 0, -1));
    }

    private static void jugs() {
        Diophantdesk d = desk();
        d.jug(0);
        due(2, d.jugs(6, 4));
        due(0, d.inJug(false, false));
        due(6, d.inJug(false, true));
        due(4, d.inJug(true, true));
        due(30, d.jugs(30, 30));
        due(1, d.jugs(1, 1));
        thrown(ARGUMENT, () -> d.jugs(0, 1));
        thrown(ARGUMENT, () -> d.jugs(1, 0));
        thrown(ARGUMENT, () -> d.jugs(31, 1));
        thrown(ARGUMENT, () -> d.jugs(1, 31));
        due(4, d.desk(4));
    }

    private static void jug() {
        Diophantdesk d = desk();
        due(3, d.jug(0));
        due(0, d.jug(0));
        due(3, d.jug(4));
        due(3, d.jug(0));
        due(2, d.jug(4));
        due(1, d.jug(2));
        due(5, d.jug(3));
        due(5, d.jug(1));
        due(3, d.jug(5));
        due(2, d.inJug(true, false));
        due(3, d.inJug(false, false));
        due(8, d.desk(4));
        thrown(ARGUMENT, () -> d.jug(6));
        thrown(ARGUMENT, () -> d.jug(-1));
    }

    private static void inJug() {
        Diophantdesk d = desk();
        d.jugs(7, 9);
        d.jug(1);
        d.jug(5);
        due(7, d.inJug(false, false));
        due(2, d.inJug(true, false));
        due(7, d.inJug(false, true));
        due(9, d.inJug(true, true));
    }

    private static void left() {
        Diophantdesk d = desk();
        due(0, d.left(0));
        due(6, d.left(4));
        due(1, d.left(3));
        due(-1, d.left(6));
        due(-1, d.left(30));
        d.jug(1);
        d.jug(5);
        due(4, d.left(4));
        due(0, d.left(2));
        d.jugs(6, 4);
        due(-1, d.left(1));
        due(2, d.left(2));
        thrown(ARGUMENT, () -> d.left(31));
        thrown(ARGUMENT, () -> d.left(-1));
    }

    private static void next() {
        Diophantdesk d = desk();
        due(-1, d.next(0));
        due(1, d.next(4));
        due(0, d.next(3));
        due(-1, d.next(6));
        for (int left = d.left(4); left > 0; left--) {
            due(left, d.left(4));
            d.jug(d.next(4));
        }
        due(0, d.left(4));
        due(-1, d.next(4));
        d.jugs(5, 5);
        due(0, d.next(5));
        thrown(ARGUMENT, () -> d.next(31));
        thrown(ARGUMENT, () -> d.next(-1));
    }

    private static void undo() {
        Diophantdesk d = system(2, row(1, 2, 0, 0, 3));
        d.equation(6, 10, 14);
        d.changeRow(0, 2, 5);
        d.coin(7);
        d.lattice(7, 0, 3, 1);
        d.jugs(6, 4);
        d.jug(0);
        due(8, d.desk(4));
        due(7, d.undo());
        due(0, d.inJug(false, false));
        due(6, d.undo());
        due(3, d.inJug(false, true));
        due(5, d.undo());
        due(1, d.shortest(0));
        due(4, d.undo());
        due(0, d.ofCoins(0));
        due(3, d.undo());
        due("1 2 3", d.form(0));
        due(2, d.undo());
        due(0, d.desk(0));
        due(1, d.undo());
        due(0, d.ofSystem(1));
        due(0, d.undo());
        thrown(STATE, d::undo);
        // a ninth CHANGE: the oldest is forgotten
        for (int a = 1; a <= 10; a++) {
            d.equation(a, 0, 0);
        }
        due(8, d.desk(4));
        for (int still = 7; still >= 0; still--) {
            due(still, d.undo());
        }
        due(2, d.desk(0));
        thrown(STATE, d::undo);
        // also CHANGES behind which nothing is otherwise
        d.jug(2);
        due(1, d.desk(4));
        thrown(ARGUMENT, () -> d.jug(6));
        due(1, d.desk(4));
    }

    private static void knock() {
        Diophantdesk d = desk();
        due(1, d.knock());
        d.coin(3);
        due(2, d.knock());
        d.undo();
        due(3, d.knock());
        due(3, d.desk(5));
        due(0, d.desk(4));
    }

    private static void deskAsks() {
        Diophantdesk d = desk();
        d.equation(-6, 10, 4);
        d.knock();
        int[] want = {-6, 10, 4, 2, 1, 1};
        for (int what = 0; what <= 5; what++) {
            due(want[what], d.desk(what));
        }
        thrown(ARGUMENT, () -> d.desk(6));
        thrown(ARGUMENT, () -> d.desk(-1));
    }

    private static void isSound() {
        due(true, desk().isSound());
        Diophantdesk d = system(3, row(2, 4, 4, 0, 6), row(-6, 6, 12, 0, 6), row(-20, 1, 1, 0, 3));
        d.equation(0, 0, 5);
        d.coin(1);
        d.coin(30);
        d.lattice(99, 98, 98, 97);
        d.jugs(6, 4);
        due(true, d.isSound());
        d.equation(9999, -9998, 999999);
        due(true, d.isSound());
    }

    /** The digest of a new object, term by term as the document tells them. */
    private static void digest() {
        long[] terms = {0, 0, 0, 0, 0, 0, 1, 0, 0, 0, 0, 0, 0, 101 * 81, 97, 0, 96,
            2, 0, 0, 2, -1, 0, 0, 3, 0, 3, 3, 25, 0, -1, -1, 0, -1, -1, 0, -1, 1, 1, 1, 1, 4, 0, 17, 29, 1, 0, 3, 0, 5};
        long want = 4911;
        for (long term : terms) {
            want = want * 31 + term;
        }
        int[] left = {0, 4, 2, 1, 6, 1};
        int[] next = {-1, 0, 1, 0, 1, 1};
        for (int goal = 0; goal <= 30; goal++) {
            want = want * 31 + (goal <= 5 ? left[goal] : -1);
            want = want * 31 + (goal <= 5 ? next[goal] : -1);
        }
        want = want * 31 + 1;
        Diophantdesk d = desk();
        due(want, d.digest());
        due(want, d.digest());
        d.knock();
        due(false, want == d.digest());
        Diophantdesk e = system(4, row(3, 6, 9, 12, 3), row(-6, 10, 15, 0, 1), row(7, -5, 2, 1, 4));
        e.equation(-6, 97, 55);
        e.coin(7);
        e.coin(30);
        e.lattice(17, 4, -5, 22);
        e.jugs(7, 11);
        e.jug(0);
        e.jug(4);
        e.jug(0);
        due(digestByFace(e), e.digest());
        e.undo();
        due(e.changeRow(2, 0, 0), 7);
        due(e.changeRow(2, 1, 0), -5);
        due(e.changeRow(2, 2, 0), 2);
        due(e.changeRow(2, 3, 0), 1);
        e.equation(0, 0, 3);
        due(digestByFace(e), e.digest());
    }

    /** The sum that promise 40 tells, by calls of the face alone. */
    private static long digestByFace(Diophantdesk d) {
        long[] sum = {4911};
        LongConsumer put = v -> sum[0] = sum[0] * 31 + v;
        for (int what = 0; what <= 5; what++) {
            put.accept(d.desk(what));
        }
        put.accept(d.isSolvable() ? 1 : 0);
        for (int t = -1; t <= 1 && d.isSolvable(); t++) {
            put.accept(d.along(t, false));
            put.accept(d.along(t, true));
        }
        put.accept(d.inBox(-50, 50, -40, 40));
        for (int what = 0; what <= 2; what++) {
            put.accept(d.congruent(d.desk(0), d.desk(1), 97, what));
        }
        for (int what = 0; what <= 5; what++) {
            put.accept(d.ofSystem(what));
        }
        for (int place = 0; place < d.ofSystem(1); place++) {
            put.accept(d.form(place).length());
        }
        for (int n = 0; n < d.ofSystem(5); n++) {
            put.accept(d.act(n).length());
        }
        put.accept(d.diagonal().length());
        put.accept(d.answer().length());
        put.accept(d.paper().length());
        for (int place = 0; place < d.ofSystem(3); place++) {
            put.accept(d.basis(place).length());
        }
        put.accept(d.inCube(2));
        for (int what = 0; what <= 5; what++) {
            put.accept(d.ofCoins(what));
        }
        put.accept(d.ways(100));
        put.accept(d.fewest(97));
        put.accept(d.payable(0, 50));
        for (int what = 0; what <= 3; what++) {
            put.accept(d.shortest(what));
        }
        for (int what = 0; what <= 3; what++) {
            put.accept(d.nearest(17, 29, what));
        }
        put.accept(d.inJug(false, false));
        put.accept(d.inJug(false, true));
        put.accept(d.inJug(true, false));
        put.accept(d.inJug(true, true));
        for (int goal = 0; goal <= 30; goal++) {
            put.accept(d.left(goal));
            put.accept(d.next(goal));
        }
        put.accept(d.isSound() ? 1 : 0);
        return sum[0];
    }

    public static void main(String[] args) {
        Runnable[] promises = {
            PromiseTest::newObject, PromiseTest::equation, PromiseTest::isSolvable, PromiseTest::along,
            PromiseTest::inBox, PromiseTest::congruent, PromiseTest::unknowns, PromiseTest::tellRow,
            PromiseTest::changeRow, PromiseTest::dropRow, PromiseTest::ofSystem, PromiseTest::form,
            PromiseTest::act, PromiseTest::diagonal, PromiseTest::answer, PromiseTest::basis,
            PromiseTest::inCube, PromiseTest::paper, PromiseTest::isMet, PromiseTest::coin,
            PromiseTest::uncoin, PromiseTest::canPay, PromiseTest::payNext, PromiseTest::payable,
            PromiseTest::ofCoins, PromiseTest::ways, PromiseTest::fewest, PromiseTest::lattice,
            PromiseTest::shortest, PromiseTest::nearest, PromiseTest::jugs, PromiseTest::jug,
            PromiseTest::inJug, PromiseTest::left, PromiseTest::next, PromiseTest::undo,
            PromiseTest::knock, PromiseTest::deskAsks, PromiseTest::isSound, PromiseTest::digest,
        };
        for (Runnable test : promises) {
            promise++;
            test.run();
        }
        System.out.println(promise + " promises, " + checks + " checks, " + wrong + " wrong");
        if (wrong > 0) {
            System.exit(1);
        }
    }
}
