import java.util.Arrays;

/** A desk for whole answers of whole equations; ../shared/DOC.md says what each call does. */
public final class Diophantdesk {
    private static final int NONE = -1;
    private static final int CAN_NOT = -9;
    private static final int MOST_UNDONE = 8;
    private static final int MOST_UNKNOWNS = 4;
    private static final int MOST_ROWS = 4;
    private static final int MOST_COINS = 5;
    private static final int MOST_COIN = 30;
    private static final int MOST_SUM = 900;
    private static final int MOST_WAYS_SUM = 300;
    private static final int MOST_SIZE = 30;
    private static final int POURS = 6;

    private final Told now = new Told();
    private final Told[] past = new Told[MOST_UNDONE];
    private int undoable;
    private int knocks;

    private final Equation equation = new Equation();
    private final Rows system = new Rows();
    private final Coins coins = new Coins();
    private final Lattice lattice = new Lattice();
    private final Jugs jugs = new Jugs();
    private final Pen pen = new Pen();

    // What is worked out of the told numbers is kept till they change, since digest() asks much of it often.
    private boolean isEquationFresh;
    private boolean isSystemFresh;
    private boolean areCoinsFresh;
    private boolean isLatticeFresh;
    private boolean areJugsFresh;

    public Diophantdesk() {
        for (int i = 0; i < past.length; i++) {
            past[i] = new Told();
        }
    }

    // ---- one equation

    public int equation(int a, int b, int c) throws IllegalArgumentException {
        if (!isWithin(a, -9999, 9999) || !isWithin(b, -9999, 9999) || !isWithin(c, -999999, 999999)) {
            throw new IllegalArgumentException("a and b are -9999 to 9999, c is -999999 to 999999");
        }
        keepForUndoing();
        now.a = a;
        now.b = b;
        now.c = c;
        isEquationFresh = false;
        return (int) freshEquation().g;
    }

    public boolean isSolvable() {
        return freshEquation().hasAnswer;
    }

    public int along(int t, boolean isY) throws IllegalArgumentException, IllegalStateException {
        if (!isWithin(t, -1000, 1000)) {
            throw new IllegalArgumentException("t is -1000 to 1000");
        }
        if (!freshEquation().hasAnswer) {
            throw new IllegalStateException("the equation has no answer");
        }
        return (int) (isY ? equation.yAfter(t) : equation.xAfter(t));
    }

    public int inBox(int lowX, int highX, int lowY, int highY) throws IllegalArgumentException {
        if (!isWithin(lowX, -1000, 1000) || !isWithin(highX, -1000, 1000)
                || !isWithin(lowY, -1000, 1000) || !isWithin(highY, -1000, 1000)) {
            throw new IllegalArgumentException("bounds are -1000 to 1000");
        }
        if (lowX > highX || lowY > highY) {
            throw new IllegalArgumentException("no least bound is above the greatest one");
        }
        return (int) freshEquation().countInBox(lowX, highX, lowY, highY);
    }

    public int congruent(int a, int c, int by, int what) throws IllegalArgumentException {
        if (!isWithin(a, -9999, 9999) || !isWithin(c, -9999, 9999)
                || !isWithin(by, 1, 9999) || !isWithin(what, 0, 2)) {
            throw new IllegalArgumentException("a and c are -9999 to 9999, by is 1 to 9999, what is 0 to 2");
        }
        long g = Whole.gcd(a, by);
        if (!Whole.divides(g, c)) {
            return what == 0 ? 0 : NONE;
        }
        if (what == 0) {
            return (int) g;
        }
        long least = Whole.leastFactor(a, c, by);
        return (int) (what == 1 ? least : least + by - Whole.floor(by, g));
    }

    // ---- systems

    public int unknowns(int many) throws IllegalArgumentException {
        if (!isWithin(many, 1, MOST_UNKNOWNS)) {
            throw new IllegalArgumentException("a system has 1 to 4 unknowns");
        }
        keepForUndoing();
        int gone = now.rows;
        now.unknowns = many;
        now.rows = 0;
        isSystemFresh = false;
        return gone;
    }

    public int row(int a, int b, int c, int d, int right) throws IllegalArgumentException, IllegalStateException {
        if (!isFactor(a) || !isFactor(b) || !isFactor(c) || !isFactor(d) || !isRightSide(right)) {
            throw new IllegalArgumentException("a factor is -20 to 20, a right side -999 to 999");
        }
        if (now.rows >= MOST_ROWS) {
            throw new IllegalStateException("there are 4 rows");
        }
        keepForUndoing();
        int place = now.rows;
        now.rows = place + 1;
        now.tellFactor(place, 0, a);
        now.tellFactor(place, 1, b);
        now.tellFactor(place, 2, c);
        now.tellFactor(place, 3, d);
        now.put(place, Told.RIGHT, right);
        isSystemFresh = false;
        return place;
    }

    public int changeRow(int place, int column, int value) throws IndexOutOfBoundsException, IllegalArgumentException {
        if (!isWithin(place, 0, now.rows - 1)) {
            throw new IndexOutOfBoundsException("there is no such row");
        }
        if (!isWithin(column, 0, now.unknowns)) {
            throw new IllegalArgumentException("there is no such column");
        }
        boolean isOfRight = column == now.unknowns;
        if (isOfRight ? !isRightSide(value) : !isFactor(value)) {
            throw new IllegalArgumentException("a factor is -20 to 20, a right side -999 to 999");
        }
        keepForUndoing();
        int told = isOfRight ? Told.RIGHT : column;
        int before = now.number(place, told);
        now.put(place, told, value);
        isSystemFresh = false;
        return before;
    }

    public int dropRow(int place) throws IndexOutOfBoundsException {
        if (!isWithin(place, 0, now.rows - 1)) {
            throw new IndexOutOfBoundsException("there is no such row");
        }
        keepForUndoing();
        now.closeUp(place);
        isSystemFresh = false;
        return now.rows;
    }

    public int ofSystem(int what) throws IllegalArgumentException {
        if (!isWithin(what, 0, 5)) {
            throw new IllegalArgumentException("what is 0 to 5");
        }
        return freshSystem().figure(what);
    }

    public String form(int place) throws IndexOutOfBoundsException {
        if (!isWithin(place, 0, now.rows - 1)) {
            throw new IndexOutOfBoundsException("there is no such row");
        }
        freshSystem().form.write(pen, place);
        return pen.copy();
    }

    public String act(int n) throws IndexOutOfBoundsException {
        Rows rows = freshSystem();
        if (!isWithin(n, 0, rows.acts.count - 1)) {
            throw new IndexOutOfBoundsException("there is no such act");
        }
        rows.acts.write(pen, n);
        return pen.copy();
    }

    public String diagonal() {
        freshSystem().writeDiagonal(pen);
        return pen.copy();
    }

    public String answer() {
        freshSystem().writeAnswer(pen);
        return pen.copy();
    }

    public String basis(int place) throws IndexOutOfBoundsException {
        Rows rows = freshSystem();
        if (!isWithin(place, 0, rows.basis.rank - 1)) {
            throw new IndexOutOfBoundsException("the basis has no such row");
        }
        rows.basis.write(pen, place);
        return pen.copy();
    }

    public int inCube(int side) throws IllegalArgumentException {
        if (!isWithin(side, 0, 6)) {
            throw new IllegalArgumentException("side is 0 to 6");
        }
        return (int) freshSystem().countInCube(side);
    }

    public String paper() {
        freshSystem().paper.write(pen);
        return pen.copy();
    }

    public boolean isMet(int a, int b, int c, int d) {
        return freshSystem().isMetBy(a, b, c, d);
    }

    // ---- coins

    public int coin(int value) throws IllegalArgumentException, IllegalStateException {
        if (!isWithin(value, 1, MOST_COIN)) {
            throw new IllegalArgumentException("a coin is 1 to 30");
        }
        if (Integer.bitCount(now.coins) >= MOST_COINS) {
            throw new IllegalStateException("there are 5 coins");
        }
        if (now.hasCoin(value)) {
            throw new IllegalStateException("the coin is there");
        }
        return turnCoin(value);
    }

    public int uncoin(int value) throws IllegalArgumentException, IllegalStateException {
        if (!isWithin(value, 1, MOST_COIN)) {
            throw new IllegalArgumentException("a coin is 1 to 30");
        }
        if (!now.hasCoin(value)) {
            throw new IllegalStateException("the coin is not there");
        }
        return turnCoin(value);
    }

    public boolean canPay(int sum) throws IllegalArgumentException {
        if (!isWithin(sum, 0, MOST_SUM)) {
            throw new IllegalArgumentException("a sum is 0 to 900");
        }
        return freshCoins().isPaid(sum);
    }

    public int payNext(int sum, boolean isAbove) throws IllegalArgumentException {
        if (!isWithin(sum, 0, MOST_SUM)) {
            throw new IllegalArgumentException("a sum is 0 to 900");
        }
        return freshCoins().paidNear(sum, isAbove);
    }

    public int payable(int low, int high) throws IllegalArgumentException {
        if (!isWithin(low, 0, MOST_SUM) || !isWithin(high, 0, MOST_SUM)) {
            throw new IllegalArgumentException("a sum is 0 to 900");
        }
        return low > high ? CAN_NOT : freshCoins().countPaid(low, high);
    }

    public int ofCoins(int what) throws IllegalArgumentException {
        if (!isWithin(what, 0, 5)) {
            throw new IllegalArgumentException("what is 0 to 5");
        }
        Coins all = freshCoins();
        switch (what) {
            case 0: return all.count;
            case 1: return all.least();
            case 2: return all.greatest();
            case 3: return all.g;
            case 4: return all.greatestUnpaid();
            default: return all.countUnpaid();
        }
    }

    public int ways(int sum) throws IllegalArgumentException {
        if (!isWithin(sum, 0, MOST_WAYS_SUM)) {
            throw new IllegalArgumentException("sum is 0 to 300");
        }
        return freshCoins().countWays(sum);
    }

    public int fewest(int sum) throws IllegalArgumentException {
        if (!isWithin(sum, 0, MOST_SUM)) {
            throw new IllegalArgumentException("a sum is 0 to 900");
        }
        return freshCoins().fewestFor(sum);
    }

    // ---- lattice and jugs

    public int lattice(int x1, int y1, int x2, int y2) throws IllegalArgumentException, IllegalStateException {
        if (!isArrow(x1) || !isArrow(y1) || !isArrow(x2) || !isArrow(y2)) {
            throw new IllegalArgumentException("an arrow goes -99 to 99");
        }
        if (x1 * y2 == x2 * y1) {
            throw new IllegalStateException("the area would be 0");
        }
        keepForUndoing();
        now.x1 = x1;
        now.y1 = y1;
        now.x2 = x2;
        now.y2 = y2;
        isLatticeFresh = false;
        return (int) freshLattice().area;
    }

    public int shortest(int what) throws IllegalArgumentException {
        if (!isWithin(what, 0, 3)) {
            throw new IllegalArgumentException("what is 0 to 3");
        }
        Lattice points = freshLattice();
        switch (what) {
            case 0: return (int) points.area;
            case 1: return (int) points.leastSquare();
            case 2: return (int) points.secondSquare();
            default: return points.countLeast();
        }
    }

    public int nearest(int x, int y, int what) throws IllegalArgumentException {
        if (!isWithin(x, -999, 999) || !isWithin(y, -999, 999) || !isWithin(what, 0, 3)) {
            throw new IllegalArgumentException("a place goes -999 to 999, what is 0 to 3");
        }
        Lattice points = freshLattice();
        points.seekNearest(x, y);
        switch (what) {
            case 0: return (int) points.nearSquare;
            case 1: return (int) points.nearX;
            case 2: return (int) points.nearY;
            default: return points.nearCount;
        }
    }

    public int jugs(int first, int second) throws IllegalArgumentException {
        if (!isWithin(first, 1, MOST_SIZE) || !isWithin(second, 1, MOST_SIZE)) {
            throw new IllegalArgumentException("a size is 1 to 30");
        }
        keepForUndoing();
        now.firstSize = first;
        now.secondSize = second;
        now.inFirst = 0;
        now.inSecond = 0;
        areJugsFresh = false;
        return (int) Whole.gcd(first, second);
    }

    public int jug(int pour) throws IllegalArgumentException {
        if (!isWithin(pour, 0, POURS - 1)) {
            throw new IllegalArgumentException("a pour is 0 to 5");
        }
        keepForUndoing();
        jugs.tellSizes(now);
        int moved = jugs.moved(pour, now.inFirst, now.inSecond);
        now.inFirst += Jugs.signInFirst(pour) * moved;
        now.inSecond += Jugs.signInSecond(pour) * moved;
        areJugsFresh = false;
        return moved;
    }

    public int inJug(boolean isSecond, boolean isSize) {
        if (isSize) {
            return isSecond ? now.secondSize : now.firstSize;
        }
        return isSecond ? now.inSecond : now.inFirst;
    }

    public int left(int goal) throws IllegalArgumentException {
        if (!isWithin(goal, 0, MOST_SIZE)) {
            throw new IllegalArgumentException("a goal is 0 to 30");
        }
        return freshJugs().poursTo(goal);
    }

    public int next(int goal) throws IllegalArgumentException {
        if (!isWithin(goal, 0, MOST_SIZE)) {
            throw new IllegalArgumentException("a goal is 0 to 30");
        }
        return freshJugs().firstPourTo(goal);
    }

    // ---- undoing, and all

    public int undo() throws IllegalStateException {
        int last = undoable - 1;
        if (!isWithin(last, 0, past.length - 1)) {
            throw new IllegalStateException("there is nothing to undo");
        }
        Told before = past[last];
        if (before != null) {
            now.become(before);
        }
        undoable = last;
        isEquationFresh = false;
        isSystemFresh = false;
        areCoinsFresh = false;
        isLatticeFresh = false;
        areJugsFresh = false;
        return undoable;
    }

    public int knock() {
        knocks++;
        return knocks;
    }

    public int desk(int what) throws IllegalArgumentException {
        if (!isWithin(what, 0, 5)) {
            throw new IllegalArgumentException("what is 0 to 5");
        }
        switch (what) {
            case 0: return now.a;
            case 1: return now.b;
            case 2: return now.c;
            case 3: return (int) freshEquation().g;
            case 4: return undoable;
            default: return knocks;
        }
    }

    public boolean isSound() {
        return freshEquation().holds() && freshSystem().holds() && freshCoins().holds()
                && freshLattice().holds() && freshJugs().holds();
    }

    public long digest() {
        long d = digestOfEquation(4911);
        d = digestOfSystem(d);
        d = digestOfCoinsAndPoints(d);
        d = digestOfJugs(d);
        return d * 31 + (isSound() ? 1 : 0);
    }

    private long digestOfEquation(long start) {
        long d = start;
        for (int what = 0; what <= 5; what++) {
            d = d * 31 + desk(what);
        }
        boolean hasAnswer = isSolvable();
        d = d * 31 + (hasAnswer ? 1 : 0);
        for (int t = -1; t <= 1 && hasAnswer; t++) {
            d = d * 31 + along(t, false);
            d = d * 31 + along(t, true);
        }
        d = d * 31 + inBox(-50, 50, -40, 40);
        for (int what = 0; what <= 2; what++) {
            d = d * 31 + congruent(now.a, now.b, 97, what);
        }
        return d;
    }

    /** The texts are only written with the pen and measured there: a text made for each would fill the room. */
    private long digestOfSystem(long start) {
        long d = start;
        Rows rows = freshSystem();
        for (int what = 0; what <= 5; what++) {
            d = d * 31 + rows.figure(what);
        }
        for (int place = 0; place < now.rows; place++) {
            rows.form.write(pen, place);
            d = d * 31 + pen.length();
        }
        for (int n = 0; n < rows.acts.count; n++) {
            rows.acts.write(pen, n);
            d = d * 31 + pen.length();
        }
        rows.writeDiagonal(pen);
        d = d * 31 + pen.length();
        rows.writeAnswer(pen);
        d = d * 31 + pen.length();
        rows.paper.write(pen);
        d = d * 31 + pen.length();
        for (int place = 0; place < rows.basis.rank; place++) {
            rows.basis.write(pen, place);
            d = d * 31 + pen.length();
        }
        return d * 31 + rows.countInCube(2);
    }

    private long digestOfCoinsAndPoints(long start) {
        long d = start;
        for (int what = 0; what <= 5; what++) {
            d = d * 31 + ofCoins(what);
        }
        d = d * 31 + ways(100);
        d = d * 31 + fewest(97);
        d = d * 31 + payable(0, 50);
        for (int what = 0; what <= 3; what++) {
            d = d * 31 + shortest(what);
        }
        for (int what = 0; what <= 3; what++) {
            d = d * 31 + nearest(17, 29, what);
        }
        return d;
    }

    private long digestOfJugs(long start) {
        long d = start;
        d = d * 31 + now.inFirst;
        d = d * 31 + now.firstSize;
        d = d * 31 + now.inSecond;
        d = d * 31 + now.secondSize;
        for (int goal = 0; goal <= MOST_SIZE; goal++) {
            d = d * 31 + left(goal);
            d = d * 31 + next(goal);
        }
        return d;
    }

    // ---- what the calls share

    private static boolean isWithin(int value, int low, int high) {
        return value >= low && value <= high;
    }

    private static boolean isFactor(int value) {
        return isWithin(value, -20, 20);
    }

    private static boolean isRightSide(int value) {
        return isWithin(value, -999, 999);
    }

    private static boolean isArrow(int value) {
        return isWithin(value, -99, 99);
    }

    /** A coin that is there goes, one that is not comes. */
    private int turnCoin(int value) {
        keepForUndoing();
        now.coins ^= 1 << value;
        areCoinsFresh = false;
        return freshCoins().countPaid(0, MOST_SUM);
    }

    /** Stands ahead of each CHANGE, when nothing can refuse it any more. */
    private void keepForUndoing() {
        if (undoable >= past.length) {
            moveOldestBehind();
        }
        if (isWithin(undoable, 0, past.length - 1)) {
            Told kept = past[undoable];
            if (kept != null) {
                kept.become(now);
            }
            undoable++;
        }
    }

    /** The oldest is written over next: so no new object is made. */
    private void moveOldestBehind() {
        for (int i = 1; i < past.length; i++) {
            Told older = past[i - 1];
            past[i - 1] = past[i];
            past[i] = older;
        }
        undoable = past.length - 1;
    }

    private Equation freshEquation() {
        if (!isEquationFresh) {
            equation.work(now);
            isEquationFresh = true;
        }
        return equation;
    }

    private Rows freshSystem() {
        if (!isSystemFresh) {
            system.copy(now);
            system.workForm();
            system.workColumns();
            system.workBasis();
            system.tryRows();
            system.workAnswer();
            system.workPaper();
            system.workDiagonal();
            isSystemFresh = true;
        }
        return system;
    }

    private Coins freshCoins() {
        if (!areCoinsFresh) {
            coins.work(now);
            areCoinsFresh = true;
        }
        return coins;
    }

    private Lattice freshLattice() {
        if (!isLatticeFresh) {
            lattice.work(now);
            isLatticeFresh = true;
        }
        return lattice;
    }

    private Jugs freshJugs() {
        if (!areJugsFresh) {
            jugs.work(now);
            areJugsFresh = true;
        }
        return jugs;
    }

    /** All that is told, and that undoing brings back. */
    private static final class Told {
        /** Where a RIGHT side stands, however many UNKNOWNS there are. */
        static final int RIGHT = MOST_UNKNOWNS;
        private static final int WIDTH = MOST_UNKNOWNS + 1;

        int a;
        int b;
        int c;
        int unknowns = 2;
        int rows;
        private final int[] numbers = new int[MOST_ROWS * WIDTH];
        /** The bit v is 1, if there is a COIN of the value v. */
        int coins;
        int x1 = 1;
        int y1;
        int x2;
        int y2 = 1;
        int firstSize = 3;
        int secondSize = 5;
        int inFirst;
        int inSecond;

        int number(int place, int column) {
            if (place < 0 || place >= MOST_ROWS || column < 0 || column >= WIDTH) {
                return 0;
            }
            return numbers[place * WIDTH + column];
        }

        void put(int place, int column, int value) {
            if (place >= 0 && place < MOST_ROWS && column >= 0 && column < WIDTH) {
                numbers[place * WIDTH + column] = value;
            }
        }

        /** A FACTOR of an UNKNOWN that there is not is lost. */
        void tellFactor(int place, int unknown, int value) {
            put(place, unknown, unknown < unknowns ? value : 0);
        }

        void closeUp(int place) {
            for (int at = place; at + 1 < rows; at++) {
                for (int column = 0; column < WIDTH; column++) {
                    put(at, column, number(at + 1, column));
                }
            }
            rows--;
        }

        boolean hasCoin(int value) {
            return (coins >> value & 1) == 1;
        }

        void become(Told other) {
            a = other.a;
            b = other.b;
            c = other.c;
            unknowns = other.unknowns;
            rows = other.rows;
            for (int place = 0; place < MOST_ROWS; place++) {
                for (int column = 0; column < WIDTH; column++) {
                    put(place, column, other.number(place, column));
                }
            }
            coins = other.coins;
            x1 = other.x1;
            y1 = other.y1;
            x2 = other.x2;
            y2 = other.y2;
            firstSize = other.firstSize;
            secondSize = other.secondSize;
            inFirst = other.inFirst;
            inSecond = other.inSecond;
        }
    }

    /** Arithmetic of whole numbers, with every divisor looked at. */
    private static final class Whole {
        /** Two divisions halve a long at least, so 126 are enough. */
        static final int MOST_DIVISIONS = 200;
        /** More than any multiple that is asked for. */
        static final long FAR = 1L << 60;

        static long gcd(long a, long b) {
            long older = Math.abs(a);
            long newer = Math.abs(b);
            for (int i = 0; i < MOST_DIVISIONS && newer != 0; i++) {
                long rest = older % newer;
                older = newer;
                newer = rest;
            }
            return older;
        }

        /** 0 divides 0 alone. */
        static boolean divides(long divisor, long number) {
            return divisor == 0 ? number == 0 : number % divisor == 0;
        }

        static long towardsZero(long number, long divisor) {
            return divisor == 0 ? 0 : number / divisor;
        }

        static long floor(long number, long divisor) {
            return divisor == 0 ? 0 : Math.floorDiv(number, divisor);
        }

        private static long rest(long number, long divisor) {
            return divisor == 0 ? 0 : Math.floorMod(number, divisor);
        }

        /** The least x of 0 or more for which by divides a * x - c; by is not 0, and the GCD of a and by divides c. */
        static long leastFactor(long a, long c, long by) {
            long g = gcd(a, by);
            long turn = Math.abs(towardsZero(by, g));
            long inverse = inverse(rest(towardsZero(a, g), turn), turn);
            return rest(inverse * rest(towardsZero(c, g), turn), turn);
        }

        /** What times number leaves 1, divided by turn; it may be below 0. */
        private static long inverse(long number, long turn) {
            long older = turn;
            long newer = number;
            long olderTimes = 0;
            long newerTimes = 1;
            for (int i = 0; i < MOST_DIVISIONS && newer != 0; i++) {
                long q = older / newer;
                long rest = older - q * newer;
                older = newer;
                newer = rest;
                long restTimes = olderTimes - q * newerTimes;
                olderTimes = newerTimes;
                newerTimes = restTimes;
            }
            return olderTimes;
        }

        /** The least t for which first + t * step is from low to high; beyond all others, if there is none. */
        static long leastTimes(long first, long step, long low, long high) {
            if (step == 0) {
                return first >= low && first <= high ? -FAR : FAR;
            }
            return step > 0 ? -floor(first - low, step) : -floor(high - first, -step);
        }

        /** The greatest such t. */
        static long mostTimes(long first, long step, long low, long high) {
            if (step == 0) {
                return first >= low && first <= high ? FAR : -FAR;
            }
            return step > 0 ? floor(high - first, step) : floor(first - low, -step);
        }
    }

    /** What is known of the EQUATION. */
    private static final class Equation {
        private long a;
        private long b;
        private long c;
        long g;
        boolean hasAnswer;
        private long firstX;
        private long firstY;
        private long stepX;
        private long stepY;

        void work(Told told) {
            a = told.a;
            b = told.b;
            c = told.c;
            g = Whole.gcd(a, b);
            hasAnswer = Whole.divides(g, c);
            stepX = Whole.towardsZero(b, g);
            stepY = Whole.towardsZero(-a, g);
            firstX = 0;
            firstY = 0;
            if (!hasAnswer) {
                return;
            }
            if (b != 0) {
                firstX = Whole.leastFactor(a, c, b);
                firstY = Whole.towardsZero(c - a * firstX, b);
            } else {
                firstX = Whole.towardsZero(c, a);
            }
        }

        long xAfter(long t) {
            return firstX + t * stepX;
        }

        long yAfter(long t) {
            return firstY + t * stepY;
        }

        long countInBox(long lowX, long highX, long lowY, long highY) {
            if (!hasAnswer) {
                return 0;
            }
            if (g == 0) {
                return (highX - lowX + 1) * (highY - lowY + 1);
            }
            long least = Math.max(Whole.leastTimes(firstX, stepX, lowX, highX),
                    Whole.leastTimes(firstY, stepY, lowY, highY));
            long most = Math.min(Whole.mostTimes(firstX, stepX, lowX, highX),
                    Whole.mostTimes(firstY, stepY, lowY, highY));
            return Math.max(0, most - least + 1);
        }

        boolean holds() {
            if (!hasAnswer) {
                return !Whole.divides(g, c);
            }
            for (long t = -3; t <= 3; t++) {
                if (a * xAfter(t) + b * yAfter(t) != c) {
                    return false;
                }
            }
            return true;
        }
    }

    /**
     * A TABLE and its STEP FORM. Columns behind those by which the form goes are carried along by the ACTS.
     * With numbers as small as the document lets them be none comes near the bounds of a long: they stay
     * about the size of minors, products of two of them were never found above 3 * 10 ^ 14.
     */
    private static final class Table {
        private static final int MOST_WIDTH = MOST_ROWS + MOST_UNKNOWNS;

        private final long[] cells = new long[MOST_ROWS * MOST_WIDTH];
        private final int[] places = new int[MOST_ROWS];
        private int rows;
        private int columns;
        private int width;
        int rank;
        /** Where the ACTS are told; null, if nobody asks for them. */
        private Acts acts;

        void clear(int newRows, int newColumns, int newWidth) {
            Arrays.fill(cells, 0);
            rows = Math.min(newRows, MOST_ROWS);
            columns = Math.min(newColumns, MOST_WIDTH);
            width = Math.min(newWidth, MOST_WIDTH);
            rank = 0;
        }

        long at(int row, int column) {
            if (row < 0 || row >= MOST_ROWS || column < 0 || column >= MOST_WIDTH) {
                return 0;
            }
            return cells[row * MOST_WIDTH + column];
        }

        void put(int row, int column, long value) {
            if (row >= 0 && row < MOST_ROWS && column >= 0 && column < MOST_WIDTH) {
                cells[row * MOST_WIDTH + column] = value;
            }
        }

        /** The PLACE of a PIVOT ROW. */
        int place(int row) {
            return row >= 0 && row < rank && row < places.length ? places[row] : NONE;
        }

        /** What a PIVOT ROW has at its PLACE. */
        long pivot(int row) {
            return at(row, place(row));
        }

        void toStepForm(Acts told) {
            acts = told;
            rank = 0;
            for (int column = 0; column < columns && rank < rows; column++) {
                for (int i = 0; i < Whole.MOST_DIVISIONS && countFilled(column) > 1; i++) {
                    takePivotOff(leastFilled(column), column);
                }
                int filled = leastFilled(column);
                if (filled != NONE) {
                    settle(filled, column);
                }
            }
        }

        private int countFilled(int column) {
            int count = 0;
            for (int row = rank; row < rows; row++) {
                if (at(row, column) != 0) {
                    count++;
                }
            }
            return count;
        }

        private int leastFilled(int column) {
            int best = NONE;
            for (int row = rank; row < rows; row++) {
                long number = Math.abs(at(row, column));
                if (number != 0 && (best == NONE || number < Math.abs(at(best, column)))) {
                    best = row;
                }
            }
            return best;
        }

        private void takePivotOff(int pivotRow, int column) {
            for (int row = rank; row < rows; row++) {
                if (row != pivotRow) {
                    takeOff(row, Whole.towardsZero(at(row, column), at(pivotRow, column)), pivotRow);
                }
            }
        }

        /** The row becomes the next PIVOT ROW. */
        private void settle(int row, int column) {
            if (row != rank) {
                exchange(rank, row);
            }
            if (at(rank, column) < 0) {
                turn(rank);
            }
            for (int ahead = 0; ahead < rank; ahead++) {
                takeOff(ahead, Whole.floor(at(ahead, column), at(rank, column)), rank);
            }
            if (rank < places.length) {
                places[rank] = column;
            }
            rank++;
        }

        private void takeOff(int row, long q, int other) {
            if (q == 0) {
                return;
            }
            for (int column = 0; column < width; column++) {
                put(row, column, at(row, column) - q * at(other, column));
            }
            if (acts != null) {
                acts.tell(Acts.TAKEN, row, other, q);
            }
        }

        private void exchange(int row, int other) {
            for (int column = 0; column < width; column++) {
                long number = at(row, column);
                put(row, column, at(other, column));
                put(other, column, number);
            }
            if (acts != null) {
                acts.tell(Acts.EXCHANGED, row, other, 0);
            }
        }

        private void turn(int row) {
            for (int column = 0; column < width; column++) {
                put(row, column, -at(row, column));
            }
            if (acts != null) {
                acts.tell(Acts.TURNED, row, row, 0);
            }
        }

        void write(Pen pen, int row) {
            pen.clear();
            for (int column = 0; column < columns; column++) {
                pen.list(at(row, column));
            }
        }
    }

    /** The ACTS by which a STEP FORM came. */
    private static final class Acts {
        static final int TAKEN = 0;
        static final int EXCHANGED = 1;
        static final int TURNED = 2;
        /** Four rows of five such numbers need some 50; each column's numbers halve too fast for as many as this. */
        private static final int MOST_ACTS = 256;

        private final int[] kinds = new int[MOST_ACTS];
        private final int[] rows = new int[MOST_ACTS];
        private final int[] others = new int[MOST_ACTS];
        private final long[] times = new long[MOST_ACTS];
        int count;

        void tell(int kind, int row, int other, long q) {
            if (count < 0 || count >= MOST_ACTS) {
                return;
            }
            kinds[count] = kind;
            rows[count] = row;
            others[count] = other;
            times[count] = q;
            count++;
        }

        void write(Pen pen, int n) {
            pen.clear();
            if (n < 0 || n >= count || n >= MOST_ACTS) {
                return;
            }
            switch (kinds[n]) {
                case TAKEN:
                    pen.number(rows[n]);
                    pen.sign('-');
                    writeTimes(pen, times[n]);
                    pen.sign('*');
                    pen.number(others[n]);
                    break;
                case EXCHANGED:
                    pen.number(rows[n]);
                    pen.sign('~');
                    pen.number(others[n]);
                    break;
                default:
                    pen.sign('!');
                    pen.number(rows[n]);
                    break;
            }
        }

        private static void writeTimes(Pen pen, long q) {
            if (q < 0) {
                pen.sign('(');
            }
            pen.number(q);
            if (q < 0) {
                pen.sign(')');
            }
        }
    }

    /** What is known of the SYSTEM. */
    private static final class Rows {
        private int unknowns;
        private int rows;
        /** The ROWS as they are told, the RIGHT side behind the FACTORS. */
        private final Table given = new Table();
        final Acts acts = new Acts();
        final Table form = new Table();
        /** COLUMNS, and behind them the second TABLE. */
        final Table columns = new Table();
        final Table basis = new Table();
        final Paper paper = new Paper();
        int fault;
        private int placesAhead;
        private long unsettled;
        private final long[] z = new long[MOST_UNKNOWNS];
        /** The ANSWER; behind it, for each row of BASIS, an ANSWER on the way through the cube. */
        private final long[] spots = new long[(MOST_UNKNOWNS + 1) * MOST_UNKNOWNS];
        private final long[] diagonal = new long[MOST_ROWS];

        void copy(Told told) {
            unknowns = told.unknowns;
            rows = told.rows;
            copyTo(given, told);
            copyTo(form, told);
        }

        private void copyTo(Table table, Told told) {
            table.clear(rows, unknowns + 1, unknowns + 1);
            for (int row = 0; row < rows; row++) {
                for (int unknown = 0; unknown < unknowns; unknown++) {
                    table.put(row, unknown, told.number(row, unknown));
                }
                table.put(row, unknowns, told.number(row, Told.RIGHT));
            }
        }

        void workForm() {
            acts.count = 0;
            form.toStepForm(acts);
        }

        void workColumns() {
            columns.clear(unknowns, rows, rows + unknowns);
            for (int unknown = 0; unknown < unknowns; unknown++) {
                for (int row = 0; row < rows; row++) {
                    columns.put(unknown, row, given.at(row, unknown));
                }
                columns.put(unknown, rows + unknown, 1);
            }
            columns.toStepForm(null);
        }

        void workBasis() {
            int rank = columns.rank;
            basis.clear(unknowns - rank, unknowns, unknowns);
            for (int row = rank; row < unknowns; row++) {
                for (int unknown = 0; unknown < unknowns; unknown++) {
                    basis.put(row - rank, unknown, columns.at(row, rows + unknown));
                }
            }
            basis.toStepForm(null);
        }

        void tryRows() {
            fault = NONE;
            unsettled = 0;
            placesAhead = 0;
            Arrays.fill(z, 0);
            for (int row = 0; row < rows && fault == NONE; row++) {
                unsettled = given.at(row, unknowns) - settledAt(row);
                boolean isPlace = columns.place(placesAhead) == row;
                long pivot = isPlace ? columns.pivot(placesAhead) : 0;
                if (!Whole.divides(pivot, unsettled)) {
                    fault = row;
                } else if (isPlace && placesAhead < z.length) {
                    z[placesAhead] = Whole.towardsZero(unsettled, pivot);
                    placesAhead++;
                }
            }
        }

        private long settledAt(int row) {
            long settled = 0;
            for (int k = 0; k < placesAhead && k < z.length; k++) {
                settled += z[k] * columns.at(k, row);
            }
            return settled;
        }

        void workAnswer() {
            for (int unknown = 0; unknown < unknowns; unknown++) {
                long sum = 0;
                for (int k = 0; k < placesAhead && k < z.length; k++) {
                    sum += z[k] * columns.at(k, rows + unknown);
                }
                putSpot(0, unknown, sum);
            }
            for (int row = 0; row < basis.rank; row++) {
                long q = Whole.floor(spot(0, basis.place(row)), basis.pivot(row));
                moveSpot(0, row, -q, 0);
            }
        }

        private long spot(int depth, int unknown) {
            if (depth < 0 || depth > MOST_UNKNOWNS || unknown < 0 || unknown >= MOST_UNKNOWNS) {
                return 0;
            }
            return spots[depth * MOST_UNKNOWNS + unknown];
        }

        private void putSpot(int depth, int unknown, long value) {
            if (depth >= 0 && depth <= MOST_UNKNOWNS && unknown >= 0 && unknown < MOST_UNKNOWNS) {
                spots[depth * MOST_UNKNOWNS + unknown] = value;
            }
        }

        private void moveSpot(int from, int basisRow, long times, int to) {
            for (int unknown = 0; unknown < unknowns; unknown++) {
                putSpot(to, unknown, spot(from, unknown) + times * basis.at(basisRow, unknown));
            }
        }

        void workPaper() {
            paper.clear(rows);
            if (fault != NONE) {
                paper.work(columns, fault, placesAhead, unsettled);
            }
        }

        void workDiagonal() {
            Arrays.fill(diagonal, 0);
            long before = 1;
            for (int k = 1; k <= columns.rank && k <= diagonal.length; k++) {
                long minors = gcdOfMinors(k);
                diagonal[k - 1] = Whole.towardsZero(minors, before);
                before = minors;
            }
        }

        private long gcdOfMinors(int k) {
            long g = 0;
            for (int ofRows = 0; ofRows < 1 << rows; ofRows++) {
                for (int ofUnknowns = 0; ofUnknowns < 1 << unknowns; ofUnknowns++) {
                    if (Integer.bitCount(ofRows) == k && Integer.bitCount(ofUnknowns) == k) {
                        g = Whole.gcd(g, minor(given, ofRows, ofUnknowns, 0));
                    }
                }
            }
            return g;
        }

        /** The determinant of the rows from depth on that are in one set, and of the columns in the other one. */
        private static long minor(Table of, int ofRows, int ofColumns, int depth) {
            if (ofRows == 0) {
                return 1;
            }
            if (depth >= MOST_ROWS) {
                return 0;
            }
            if ((ofRows >> depth & 1) == 0) {
                return minor(of, ofRows, ofColumns, depth + 1);
            }
            long sum = 0;
            long sign = 1;
            for (int column = 0; column < MOST_UNKNOWNS; column++) {
                if ((ofColumns >> column & 1) == 1) {
                    long number = of.at(depth, column);
                    if (number != 0) {
                        sum += sign * number
                                * minor(of, ofRows & ~(1 << depth), ofColumns & ~(1 << column), depth + 1);
                    }
                    sign = -sign;
                }
            }
            return sum;
        }

        long countInCube(int side) {
            return fault == NONE ? countFrom(this, 0, side) : 0;
        }

        /** How many ANSWERS in the cube come of the spot at depth by the rows of BASIS from there on. */
        private static long countFrom(Rows system, int depth, int side) {
            int last = system.basis.rank - 1;
            if (depth >= last || depth >= MOST_UNKNOWNS) {
                return system.countOnLine(depth, side);
            }
            // No later row of BASIS has a number at this place: so it bounds how often this one is put to it.
            int place = system.basis.place(depth);
            long first = system.spot(depth, place);
            long step = system.basis.at(depth, place);
            long least = Whole.leastTimes(first, step, -side, side);
            // What a PIVOT ROW has at its PLACE is 1 or more: no more multiples of it than these lie in the cube.
            long most = Math.min(Whole.mostTimes(first, step, -side, side), least + 2L * side);
            long count = 0;
            for (long t = least; t <= most; t++) {
                system.moveSpot(depth, depth, t, depth + 1);
                count += countFrom(system, depth + 1, side);
            }
            return count;
        }

        /** Without a row of BASIS that is whether the one ANSWER lies there. */
        private long countOnLine(int depth, int side) {
            boolean isLine = depth < basis.rank;
            long least = isLine ? -Whole.FAR : 0;
            long most = isLine ? Whole.FAR : 0;
            for (int unknown = 0; unknown < unknowns; unknown++) {
                long first = spot(depth, unknown);
                long step = isLine ? basis.at(depth, unknown) : 0;
                least = Math.max(least, Whole.leastTimes(first, step, -side, side));
                most = Math.min(most, Whole.mostTimes(first, step, -side, side));
            }
            return least > most ? 0 : most - least + 1;
        }

        int figure(int what) {
            switch (what) {
                case 0: return unknowns;
                case 1: return rows;
                case 2: return columns.rank;
                case 3: return basis.rank;
                case 4: return fault;
                default: return acts.count;
            }
        }

        boolean isMetBy(long a, long b, long c, long d) {
            for (int row = 0; row < rows; row++) {
                long sum = unknowns > 0 ? given.at(row, 0) * a : 0;
                sum += unknowns > 1 ? given.at(row, 1) * b : 0;
                sum += unknowns > 2 ? given.at(row, 2) * c : 0;
                sum += unknowns > 3 ? given.at(row, 3) * d : 0;
                if (sum != given.at(row, unknowns)) {
                    return false;
                }
            }
            return true;
        }

        void writeAnswer(Pen pen) {
            pen.clear();
            if (fault != NONE) {
                pen.word("none");
                return;
            }
            for (int unknown = 0; unknown < unknowns; unknown++) {
                pen.list(spot(0, unknown));
            }
        }

        void writeDiagonal(Pen pen) {
            pen.clear();
            for (int k = 0; k < columns.rank && k < diagonal.length; k++) {
                pen.list(diagonal[k]);
            }
        }

        boolean holds() {
            if (fault != NONE) {
                return isPaperRight() && isDiagonalRight();
            }
            return isMetBy(spot(0, 0), spot(0, 1), spot(0, 2), spot(0, 3)) && isBasisRight() && isDiagonalRight();
        }

        private boolean isPaperRight() {
            for (int column = 0; column < unknowns; column++) {
                if (!paper.isSumWhole(given, column)) {
                    return false;
                }
            }
            return !paper.isSumWhole(given, unknowns);
        }

        private boolean isBasisRight() {
            for (int of = 0; of < basis.rank; of++) {
                for (int row = 0; row < rows; row++) {
                    long sum = 0;
                    for (int unknown = 0; unknown < unknowns; unknown++) {
                        sum += given.at(row, unknown) * basis.at(of, unknown);
                    }
                    if (sum != 0) {
                        return false;
                    }
                }
            }
            return true;
        }

        private boolean isDiagonalRight() {
            long product = 1;
            for (int k = 1; k <= rows && k <= unknowns && k <= diagonal.length; k++) {
                product *= diagonal[k - 1];
                if (product != gcdOfMinors(k) || (product != 0) != (k <= columns.rank)) {
                    return false;
                }
            }
            return true;
        }
    }

    /** PAPER: a fraction for each ROW. */
    private static final class Paper {
        private final long[] tops = new long[MOST_ROWS];
        private final long[] bottoms = new long[MOST_ROWS];
        private int rows;
        private boolean isThere;
        private long sumTop;
        private long sumBottom = 1;

        void clear(int newRows) {
            rows = Math.min(newRows, MOST_ROWS);
            isThere = false;
            Arrays.fill(tops, 0);
            Arrays.fill(bottoms, 1);
        }

        void work(Table columns, int fault, int placesAhead, long unsettled) {
            isThere = true;
            boolean isPlace = columns.place(placesAhead) == fault;
            put(fault, 1, isPlace ? columns.pivot(placesAhead) : 1);
            // At the PLACE of each PIVOT ROW ahead comes what makes the sum of all 0.
            for (int l = placesAhead - 1; l >= 0; l--) {
                clearSum();
                for (int row = 0; row < rows; row++) {
                    addToSum(row, columns.at(l, row));
                }
                put(columns.place(l), -sumTop, sumBottom * columns.pivot(l));
            }
            for (int row = 0; row < rows && !isPlace; row++) {
                put(row, tops[row], bottoms[row] * 2 * unsettled);
            }
        }

        boolean isSumWhole(Table given, int column) {
            clearSum();
            for (int row = 0; row < rows; row++) {
                addToSum(row, given.at(row, column));
            }
            return sumBottom == 1;
        }

        private void clearSum() {
            sumTop = 0;
            sumBottom = 1;
        }

        /** The least bottom that both share keeps the numbers small. */
        private void addToSum(int row, long times) {
            if (row < 0 || row >= rows) {
                return;
            }
            long shared = Whole.gcd(sumBottom, bottoms[row]);
            long top = sumTop * Whole.towardsZero(bottoms[row], shared)
                    + times * tops[row] * Whole.towardsZero(sumBottom, shared);
            long bottom = Whole.towardsZero(sumBottom, shared) * bottoms[row];
            long g = Whole.gcd(top, bottom);
            sumTop = Whole.towardsZero(top, g);
            sumBottom = Whole.towardsZero(bottom, g);
        }

        private void put(int row, long top, long bottom) {
            if (row < 0 || row >= rows || bottom == 0) {
                return;
            }
            long g = bottom < 0 ? -Whole.gcd(top, bottom) : Whole.gcd(top, bottom);
            tops[row] = Whole.towardsZero(top, g);
            bottoms[row] = Whole.towardsZero(bottom, g);
        }

        void write(Pen pen) {
            pen.clear();
            for (int row = 0; row < rows && isThere; row++) {
                pen.list(tops[row]);
                if (bottoms[row] != 1) {
                    pen.sign('/');
                    pen.number(bottoms[row]);
                }
            }
        }
    }

    /** What is known of the COINS. */
    private static final class Coins {
        private final int[] values = new int[MOST_COINS];
        int count;
        int g;
        /** By how few COINS each sum is PAID. */
        private final int[] fewestOf = new int[MOST_SUM + 1];
        private final int[] waysOf = new int[MOST_WAYS_SUM + 1];
        private boolean areWaysKnown;

        void work(Told told) {
            count = 0;
            g = 0;
            areWaysKnown = false;
            for (int value = 1; value <= MOST_COIN; value++) {
                if (told.hasCoin(value) && count < values.length) {
                    values[count] = value;
                    count++;
                    g = (int) Whole.gcd(g, value);
                }
            }
            // The sum 0 takes none, whatever COINS there are.
            for (int sum = 1; sum < fewestOf.length; sum++) {
                fewestOf[sum] = fewestWithOneMore(sum);
            }
        }

        private int fewestWithOneMore(int sum) {
            int best = NONE;
            for (int i = 0; i < count && i < values.length; i++) {
                int before = fewestFor(sum - values[i]);
                if (before != NONE && (best == NONE || before + 1 < best)) {
                    best = before + 1;
                }
            }
            return best;
        }

        int fewestFor(int sum) {
            return sum >= 0 && sum < fewestOf.length ? fewestOf[sum] : NONE;
        }

        boolean isPaid(int sum) {
            return fewestFor(sum) != NONE;
        }

        int paidNear(int sum, boolean isAbove) {
            for (int i = 0; i <= MOST_SUM; i++) {
                int other = isAbove ? sum + i : sum - i;
                if (isPaid(other)) {
                    return other;
                }
            }
            return NONE;
        }

        int countPaid(int low, int high) {
            int paid = 0;
            for (int sum = low; sum <= high; sum++) {
                if (isPaid(sum)) {
                    paid++;
                }
            }
            return paid;
        }

        int least() {
            return value(0);
        }

        int greatest() {
            return value(count - 1);
        }

        private int value(int i) {
            return i >= 0 && i < count && i < values.length ? values[i] : NONE;
        }

        /** Of all COINS with the GCD 1 the two 29 and 30 leave the greatest sum, 811: so SUMS have all of them. */
        int greatestUnpaid() {
            for (int sum = MOST_SUM; sum > 0 && g == 1; sum--) {
                if (!isPaid(sum)) {
                    return sum;
                }
            }
            return NONE;
        }

        int countUnpaid() {
            return g == 1 ? MOST_SUM + 1 - countPaid(0, MOST_SUM) : NONE;
        }

        int countWays(int sum) {
            if (!areWaysKnown) {
                workWays();
                areWaysKnown = true;
            }
            return sum >= 0 && sum < waysOf.length ? waysOf[sum] : 0;
        }

        private void workWays() {
            for (int sum = 0; sum < waysOf.length; sum++) {
                waysOf[sum] = sum == 0 ? 1 : 0;
            }
            for (int i = 0; i < count && i < values.length; i++) {
                for (int sum = 0; sum < waysOf.length; sum++) {
                    int before = sum - values[i];
                    if (before >= 0 && before < waysOf.length) {
                        waysOf[sum] += waysOf[before];
                    }
                }
            }
        }

        boolean holds() {
            if (count != 2 || g != 1) {
                return true;
            }
            int great = least() * greatest() - least() - greatest();
            return greatestUnpaid() == great && countUnpaid() * 2 == great + 1;
        }
    }

    /** What is known of the POINTS, by two short arrows u and v that make them, too. */
    private static final class Lattice {
        private static final int MOST_SHORTENINGS = 200;

        long area;
        private long ux;
        private long uy;
        private long vx;
        private long vy;
        long nearSquare;
        long nearX;
        long nearY;
        int nearCount;

        void work(Told told) {
            ux = told.x1;
            uy = told.y1;
            vx = told.x2;
            vy = told.y2;
            area = Math.abs(ux * vy - vx * uy);
            shorten();
        }

        /** Then u is no longer than v, and no multiple of u makes v shorter. */
        private void shorten() {
            for (int i = 0; i < MOST_SHORTENINGS; i++) {
                if (square(ux, uy) > square(vx, vy)) {
                    exchange();
                }
                long length = square(ux, uy);
                long q = Whole.floor(2 * (ux * vx + uy * vy) + length, 2 * length);
                if (q == 0) {
                    break;
                }
                vx -= q * ux;
                vy -= q * uy;
            }
        }

        private void exchange() {
            long x = ux;
            long y = uy;
            ux = vx;
            uy = vy;
            vx = x;
            vy = y;
        }

        private static long square(long x, long y) {
            return x * x + y * y;
        }

        long leastSquare() {
            return square(ux, uy);
        }

        long secondSquare() {
            return square(vx, vy);
        }

        /** Each has its opposite. A third pair would make triangles of equal sides, which whole numbers have none of. */
        int countLeast() {
            return secondSquare() == leastSquare() ? 4 : 2;
        }

        /** With arrows so short no corner further than one off the mesh round the place can be nearest. */
        void seekNearest(long x, long y) {
            long turned = ux * vy - uy * vx;
            long alongU = Whole.floor(x * vy - y * vx, turned);
            long alongV = Whole.floor(ux * y - uy * x, turned);
            nearCount = 0;
            for (long i = alongU - 1; i <= alongU + 2; i++) {
                for (long j = alongV - 1; j <= alongV + 2; j++) {
                    long pointX = i * ux + j * vx;
                    long pointY = i * uy + j * vy;
                    weigh(pointX, pointY, square(pointX - x, pointY - y));
                }
            }
        }

        private void weigh(long x, long y, long square) {
            boolean isFirst = nearCount == 0 || square < nearSquare;
            if (!isFirst && square > nearSquare) {
                return;
            }
            nearCount = isFirst ? 1 : nearCount + 1;
            if (isFirst || x < nearX || x == nearX && y < nearY) {
                nearSquare = square;
                nearX = x;
                nearY = y;
            }
        }

        boolean holds() {
            return 3 * leastSquare() <= 4 * area;
        }
    }

    /** What can be reached with the JUGS from now on. */
    private static final class Jugs {
        private static final int TURN = MOST_SIZE + 1;

        private int firstSize;
        private int secondSize;
        /** What is in both JUGS is one number: TURN times the first, and the second. */
        private final int[] steps = new int[TURN * TURN];
        private final int[] begins = new int[TURN * TURN];
        private final int[] queue = new int[TURN * TURN];
        private int reached;
        private final int[] leftOf = new int[TURN];
        private final int[] nextOf = new int[TURN];

        void tellSizes(Told told) {
            firstSize = told.firstSize;
            secondSize = told.secondSize;
        }

        void work(Told told) {
            tellSizes(told);
            Arrays.fill(steps, NONE);
            Arrays.fill(leftOf, NONE);
            Arrays.fill(nextOf, NONE);
            reached = 0;
            reach(told.inFirst, told.inSecond, 0, NONE);
            for (int i = 0; i < reached && i < queue.length; i++) {
                pourOn(queue[i]);
            }
        }

        private void pourOn(int state) {
            if (state < 0 || state >= steps.length) {
                return;
            }
            int first = state / TURN;
            int second = state % TURN;
            tellGoal(first, steps[state], begins[state]);
            tellGoal(second, steps[state], begins[state]);
            for (int pour = 0; pour < POURS; pour++) {
                int moved = moved(pour, first, second);
                reach(first + signInFirst(pour) * moved, second + signInSecond(pour) * moved,
                        steps[state] + 1, begins[state] == NONE ? pour : begins[state]);
            }
        }

        /** The queue goes by rising steps, and by rising first POURS among as many: so what comes first stays. */
        private void reach(int first, int second, int step, int begin) {
            if (first < 0 || first >= TURN || second < 0 || second >= TURN) {
                return;
            }
            int state = first * TURN + second;
            if (steps[state] == NONE && reached >= 0 && reached < queue.length) {
                steps[state] = step;
                begins[state] = begin;
                queue[reached] = state;
                reached++;
            }
        }

        private void tellGoal(int goal, int step, int begin) {
            if (goal < 0 || goal >= TURN) {
                return;
            }
            if (leftOf[goal] == NONE) {
                leftOf[goal] = step;
                nextOf[goal] = begin;
            }
        }

        /** How much a POUR moves. */
        int moved(int pour, int first, int second) {
            switch (pour) {
                case 0: return firstSize - first;
                case 1: return secondSize - second;
                case 2: return first;
                case 3: return second;
                case 4: return Math.min(first, secondSize - second);
                default: return Math.min(second, firstSize - first);
            }
        }

        static int signInFirst(int pour) {
            switch (pour) {
                case 0: case 5: return 1;
                case 2: case 4: return -1;
                default: return 0;
            }
        }

        static int signInSecond(int pour) {
            switch (pour) {
                case 1: case 4: return 1;
                case 3: case 5: return -1;
                default: return 0;
            }
        }

        int poursTo(int goal) {
            return goal >= 0 && goal < TURN ? leftOf[goal] : NONE;
        }

        int firstPourTo(int goal) {
            return goal >= 0 && goal < TURN ? nextOf[goal] : NONE;
        }

        boolean holds() {
            long g = Whole.gcd(firstSize, secondSize);
            for (int goal = 0; goal < TURN; goal++) {
                if (leftOf[goal] != NONE && !Whole.divides(g, goal)) {
                    return false;
                }
            }
            return true;
        }
    }

    /** Writes texts; it is kept and used again, since each new one would take room. */
    private static final class Pen {
        private final StringBuilder text = new StringBuilder();
        private final char[] digits = new char[20];

        void clear() {
            text.setLength(0);
        }

        void sign(char sign) {
            text.append(sign);
        }

        void word(String word) {
            text.append(word);
        }

        /** The next one of a ROW OF NUMBERS. */
        void list(long number) {
            if (text.length() > 0) {
                text.append(' ');
            }
            number(number);
        }

        void number(long number) {
            if (number < 0) {
                text.append('-');
            }
            // Below 0, as the least long has no opposite.
            long rest = number < 0 ? number : -number;
            int start = digits.length;
            for (int i = digits.length - 1; i >= 0 && (rest != 0 || start == digits.length); i--) {
                digits[i] = (char) ('0' - rest % 10);
                rest /= 10;
                start = i;
            }
            for (int i = start; i < digits.length; i++) {
                text.append(digits[i]);
            }
        }

        int length() {
            return text.length();
        }

        String copy() {
            return text.toString();
        }
    }
}
