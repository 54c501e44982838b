import java.math.BigInteger;
import java.util.ArrayDeque;
import java.util.ArrayList;
import java.util.Arrays;
import java.util.Deque;
import java.util.HashMap;
import java.util.List;
import java.util.Map;
import java.util.TreeSet;

/** The document, word by word and as slow as it likes: what the random runs are compared with. */
final class Reference {
    private static final BigInteger ZERO = BigInteger.ZERO;
    private static final BigInteger ONE = BigInteger.ONE;

    /** All that undoing brings back. */
    private static final class State {
        int a, b, c;
        int unknowns = 2;
        List<int[]> rows = new ArrayList<>();
        TreeSet<Integer> coins = new TreeSet<>();
        int[] arrows = {1, 0, 0, 1};
        int[] sizes = {3, 5};
        int[] in = {0, 0};

        State copy() {
            State other = new State();
            other.a = a;
            other.b = b;
            other.c = c;
            other.unknowns = unknowns;
            for (int[] row : rows) {
                other.rows.add(row.clone());
            }
            other.coins = new TreeSet<>(coins);
            other.arrows = arrows.clone();
            other.sizes = sizes.clone();
            other.in = in.clone();
            return other;
        }
    }

    private State s = new State();
    private final Deque<State> past = new ArrayDeque<>();
    private int knocks;

    private void change() {
        past.addLast(s.copy());
        if (past.size() > 8) {
            past.removeFirst();
        }
    }

    private static void allow(boolean isAllowed) {
        if (!isAllowed) {
            throw new IllegalArgumentException();
        }
    }

    private static boolean in(int value, int low, int high) {
        return low <= value && value <= high;
    }

    private static int gcd(int a, int b) {
        return BigInteger.valueOf(a).gcd(BigInteger.valueOf(b)).intValue();
    }

    // ---- one equation

    int equation(int a, int b, int c) {
        allow(in(a, -9999, 9999) && in(b, -9999, 9999) && in(c, -999999, 999999));
        change();
        s.a = a;
        s.b = b;
        s.c = c;
        return gcd(a, b);
    }

    private long[] first() {
        if (s.b != 0) {
            for (long x = 0; x < Math.abs(s.b); x++) {
                if ((s.c - s.a * x) % s.b == 0) {
                    return new long[] {x, (s.c - s.a * x) / s.b};
                }
            }
            return null;
        }
        if (s.a != 0) {
            return s.c % s.a == 0 ? new long[] {s.c / s.a, 0} : null;
        }
        return s.c == 0 ? new long[] {0, 0} : null;
    }

    boolean isSolvable() {
        return first() != null;
    }

    int along(int t, boolean isY) {
        allow(in(t, -1000, 1000));
        long[] first = first();
        if (first == null) {
            throw new IllegalStateException();
        }
        int g = gcd(s.a, s.b);
        long step = g == 0 ? 0 : isY ? -s.a / g : s.b / g;
        return (int) (first[isY ? 1 : 0] + t * step);
    }

    int inBox(int lowX, int highX, int lowY, int highY) {
        allow(in(lowX, -1000, 1000) && in(highX, -1000, 1000) && in(lowY, -1000, 1000) && in(highY, -1000, 1000));
        allow(lowX <= highX && lowY <= highY);
        int count = 0;
        for (int x = lowX; x <= highX; x++) {
            int rest = s.c - s.a * x;
            if (s.b == 0) {
                count += rest == 0 ? highY - lowY + 1 : 0;
            } else if (rest % s.b == 0 && in(rest / s.b, lowY, highY)) {
                count++;
            }
        }
        return count;
    }

    int congruent(int a, int c, int by, int what) {
        allow(in(a, -9999, 9999) && in(c, -9999, 9999) && in(by, 1, 9999) && in(what, 0, 2));
        int count = 0;
        int least = -1;
        int greatest = -1;
        for (int x = 0; x < by; x++) {
            if ((a * x - c) % by == 0) {
                count++;
                least = least < 0 ? x : least;
                greatest = x;
            }
        }
        return what == 0 ? count : what == 1 ? least : greatest;
    }

    // ---- step form

    private static final class Form {
        BigInteger[][] cells;
        BigInteger[][] twin;
        List<String> acts = new ArrayList<>();
        List<Integer> places = new ArrayList<>();
    }

    private static void take(BigInteger[][] table, int i, BigInteger q, int p) {
        for (int j = 0; j < table[i].length; j++) {
            table[i][j] = table[i][j].subtract(q.multiply(table[p][j]));
        }
    }

    private static void turn(BigInteger[] row) {
        for (int j = 0; j < row.length; j++) {
            row[j] = row[j].negate();
        }
    }

    private static void swap(BigInteger[][] table, int i, int j) {
        BigInteger[] row = table[i];
        table[i] = table[j];
        table[j] = row;
    }

    private static BigInteger floor(BigInteger a, BigInteger b) {
        BigInteger[] parts = a.divideAndRemainder(b);
        return parts[1].signum() != 0 && parts[1].signum() != b.signum() ? parts[0].subtract(ONE) : parts[0];
    }

    private static void takeOff(Form f, int i, BigInteger q, int p) {
        take(f.cells, i, q, p);
        take(f.twin, i, q, p);
        f.acts.add(i + "-" + (q.signum() < 0 ? "(" + q + ")" : q.toString()) + "*" + p);
    }

    private static Form stepForm(BigInteger[][] table, BigInteger[][] twin, int columns) {
        Form f = new Form();
        f.cells = table;
        f.twin = twin;
        int r = 0;
        for (int j = 0; j < columns; j++) {
            if (r == table.length) {
                break;
            }
            while (true) {
                int pivot = -1;
                int count = 0;
                for (int i = r; i < table.length; i++) {
                    if (table[i][j].signum() != 0) {
                        count++;
                        if (pivot < 0 || table[i][j].abs().compareTo(table[pivot][j].abs()) < 0) {
                            pivot = i;
                        }
                    }
                }
                if (count < 2) {
                    break;
                }
                for (int i = r; i < table.length; i++) {
                    if (i != pivot && table[i][j].signum() != 0) {
                        takeOff(f, i, table[i][j].divide(table[pivot][j]), pivot);
                    }
                }
            }
            int has = -1;
            for (int i = r; i < table.length; i++) {
                if (table[i][j].signum() != 0) {
                    has = i;
                }
            }
            if (has < 0) {
                continue;
            }
            if (has != r) {
                swap(table, has, r);
                swap(twin, has, r);
                f.acts.add(r + "~" + has);
            }
            if (table[r][j].signum() < 0) {
                turn(table[r]);
                turn(twin[r]);
                f.acts.add("!" + r);
            }
            for (int i = 0; i < r; i++) {
                BigInteger q = floor(table[i][j], table[r][j]);
                if (q.signum() != 0) {
                    takeOff(f, i, q, r);
                }
            }
            f.places.add(j);
            r++;
        }
        return f;
    }

    // ---- systems

    int unknowns(int many) {
        allow(in(many, 1, 4));
        change();
        int gone = s.rows.size();
        s.unknowns = many;
        s.rows.clear();
        return gone;
    }

    int row(int a, int b, int c, int d, int right) {
        for (int factor : new int[] {a, b, c, d}) {
            allow(in(factor, -20, 20));
        }
        allow(in(right, -999, 999));
        if (s.rows.size() == 4) {
            throw new IllegalStateException();
        }
        change();
        int[] row = Arrays.copyOf(new int[] {a, b, c, d}, s.unknowns + 1);
        row[s.unknowns] = right;
        s.rows.add(row);
        return s.rows.size() - 1;
    }

    private void needRow(int place) {
        if (!in(place, 0, s.rows.size() - 1)) {
            throw new IndexOutOfBoundsException();
        }
    }

    int changeRow(int place, int column, int value) {
        needRow(place);
        allow(in(column, 0, s.unknowns));
        allow(column == s.unknowns ? in(value, -999, 999) : in(value, -20, 20));
        change();
        int before = s.rows.get(place)[column];
        s.rows.get(place)[column] = value;
        return before;
    }

    int dropRow(int place) {
        needRow(place);
        change();
        s.rows.remove(place);
        return s.rows.size();
    }

    private BigInteger given(int row, int column) {
        return BigInteger.valueOf(s.rows.get(row)[column]);
    }

    private static BigInteger[][] zeros(int rows, int columns) {
        BigInteger[][] table = new BigInteger[rows][columns];
        for (BigInteger[] row : table) {
            Arrays.fill(row, ZERO);
        }
        return table;
    }

    private Form formOfSystem() {
        int m = s.rows.size();
        BigInteger[][] table = zeros(m, s.unknowns + 1);
        for (int i = 0; i < m; i++) {
            for (int j = 0; j <= s.unknowns; j++) {
                table[i][j] = given(i, j);
            }
        }
        return stepForm(table, zeros(m, 0), s.unknowns + 1);
    }

    private Form columns() {
        int m = s.rows.size();
        BigInteger[][] table = zeros(s.unknowns, m);
        BigInteger[][] second = zeros(s.unknowns, s.unknowns);
        for (int u = 0; u < s.unknowns; u++) {
            for (int i = 0; i < m; i++) {
                table[u][i] = given(i, u);
            }
            second[u][u] = ONE;
        }
        return stepForm(table, second, m);
    }

    private Form basisForm(Form columns) {
        int rank = columns.places.size();
        BigInteger[][] table = zeros(s.unknowns - rank, s.unknowns);
        for (int k = rank; k < s.unknowns; k++) {
            table[k - rank] = columns.twin[k].clone();
        }
        return stepForm(table, zeros(table.length, 0), s.unknowns);
    }

    /** What TRYING the ROWS leaves. */
    private static final class Try {
        int fault = -1;
        List<BigInteger> z = new ArrayList<>();
        BigInteger unsettled = ZERO;
    }

    private Try tryRows(Form columns) {
        Try t = new Try();
        for (int i = 0; i < s.rows.size(); i++) {
            BigInteger settled = ZERO;
            for (int k = 0; k < columns.places.size(); k++) {
                if (columns.places.get(k) < i) {
                    settled = settled.add(t.z.get(k).multiply(columns.cells[k][i]));
                }
            }
            t.unsettled = given(i, s.unknowns).subtract(settled);
            int k = columns.places.indexOf(i);
            if (k >= 0) {
                BigInteger[] parts = t.unsettled.divideAndRemainder(columns.cells[k][i]);
                if (parts[1].signum() != 0) {
                    t.fault = i;
                    return t;
                }
                t.z.add(parts[0]);
            } else if (t.unsettled.signum() != 0) {
                t.fault = i;
                return t;
            }
        }
        return t;
    }

    private BigInteger[] answerOf(Form columns, Form basis, Try t) {
        BigInteger[] answer = new BigInteger[s.unknowns];
        Arrays.fill(answer, ZERO);
        for (int k = 0; k < t.z.size(); k++) {
            for (int u = 0; u < s.unknowns; u++) {
                answer[u] = answer[u].add(t.z.get(k).multiply(columns.twin[k][u]));
            }
        }
        for (int k = 0; k < basis.places.size(); k++) {
            int place = basis.places.get(k);
            BigInteger q = floor(answer[place], basis.cells[k][place]);
            for (int u = 0; u < s.unknowns; u++) {
                answer[u] = answer[u].subtract(q.multiply(basis.cells[k][u]));
            }
        }
        return answer;
    }

    int ofSystem(int what) {
        allow(in(what, 0, 5));
        Form columns = columns();
        int rank = columns.places.size();
        return switch (what) {
            case 0 -> s.unknowns;
            case 1 -> s.rows.size();
            case 2 -> rank;
            case 3 -> s.unknowns - rank;
            case 4 -> tryRows(columns).fault;
            default -> formOfSystem().acts.size();
        };
    }

    private static String text(BigInteger[] numbers) {
        List<String> words = new ArrayList<>();
        for (BigInteger number : numbers) {
            words.add(number.toString());
        }
        return String.join(" ", words);
    }

    String form(int place) {
        needRow(place);
        return text(formOfSystem().cells[place]);
    }

    String act(int n) {
        List<String> acts = formOfSystem().acts;
        if (!in(n, 0, acts.size() - 1)) {
            throw new IndexOutOfBoundsException();
        }
        return acts.get(n);
    }

    /** The diagonal by dividing rows and columns into each other, not by minors. */
    String diagonal() {
        int m = s.rows.size();
        int n = s.unknowns;
        BigInteger[][] t = zeros(m, n);
        for (int i = 0; i < m; i++) {
            for (int j = 0; j < n; j++) {
                t[i][j] = given(i, j);
            }
        }
        List<String> words = new ArrayList<>();
        for (int k = 0; k < Math.min(m, n); k++) {
            if (!clearCorner(t, k)) {
                break;
            }
            words.add(t[k][k].abs().toString());
        }
        return String.join(" ", words);
    }

    /** Brings to k, k what divides all that is behind and below it, and 0 to the rest of its row and column. */
    private static boolean clearCorner(BigInteger[][] t, int k) {
        while (true) {
            int bestI = -1;
            int bestJ = -1;
            for (int i = k; i < t.length; i++) {
                for (int j = k; j < t[i].length; j++) {
                    if (t[i][j].signum() != 0
                            && (bestI < 0 || t[i][j].abs().compareTo(t[bestI][bestJ].abs()) < 0)) {
                        bestI = i;
                        bestJ = j;
                    }
                }
            }
            if (bestI < 0) {
                return false;
            }
            swap(t, k, bestI);
            for (BigInteger[] row : t) {
                BigInteger x = row[k];
                row[k] = row[bestJ];
                row[bestJ] = x;
            }
            boolean isClear = true;
            for (int i = k + 1; i < t.length; i++) {
                take(t, i, t[i][k].divide(t[k][k]), k);
                isClear &= t[i][k].signum() == 0;
            }
            for (int j = k + 1; j < t[k].length; j++) {
                BigInteger q = t[k][j].divide(t[k][k]);
                for (BigInteger[] row : t) {
                    row[j] = row[j].subtract(q.multiply(row[k]));
                }
                isClear &= t[k][j].signum() == 0;
            }
            if (!isClear) {
                continue;
            }
            int bad = -1;
            for (int i = k + 1; i < t.length; i++) {
                for (int j = k + 1; j < t[i].length; j++) {
                    if (t[i][j].mod(t[k][k].abs()).signum() != 0) {
                        bad = i;
                    }
                }
            }
            if (bad < 0) {
                return true;
            }
            take(t, k, ONE.negate(), bad);
        }
    }

    String answer() {
        Form columns = columns();
        Try t = tryRows(columns);
        return t.fault >= 0 ? "none" : text(answerOf(columns, basisForm(columns), t));
    }

    String basis(int place) {
        Form basis = basisForm(columns());
        if (!in(place, 0, basis.places.size() - 1)) {
            throw new IndexOutOfBoundsException();
        }
        return text(basis.cells[place]);
    }

    int inCube(int side) {
        allow(in(side, 0, 6));
        int[] low = new int[4];
        int[] high = new int[4];
        for (int u = 0; u < s.unknowns; u++) {
            low[u] = -side;
            high[u] = side;
        }
        int count = 0;
        for (int a = low[0]; a <= high[0]; a++) {
            for (int b = low[1]; b <= high[1]; b++) {
                for (int c = low[2]; c <= high[2]; c++) {
                    for (int d = low[3]; d <= high[3]; d++) {
                        count += isMet(a, b, c, d) ? 1 : 0;
                    }
                }
            }
        }
        return count;
    }

    private static BigInteger[] fraction(BigInteger top, BigInteger bottom) {
        BigInteger g = top.gcd(bottom);
        if (bottom.signum() < 0) {
            g = g.negate();
        }
        return new BigInteger[] {top.divide(g), bottom.divide(g)};
    }

    String paper() {
        Form columns = columns();
        Try t = tryRows(columns);
        int m = s.rows.size();
        if (t.fault < 0) {
            return "";
        }
        BigInteger[][] f = new BigInteger[m][];
        for (int i = 0; i < m; i++) {
            f[i] = fraction(ZERO, ONE);
        }
        int pivot = columns.places.indexOf(t.fault);
        int k = pivot;
        if (pivot >= 0) {
            f[t.fault] = fraction(ONE, columns.cells[pivot][t.fault]);
        } else {
            f[t.fault] = fraction(ONE, ONE);
            k = 0;
            for (int place : columns.places) {
                k += place < t.fault ? 1 : 0;
            }
        }
        for (int l = k - 1; l >= 0; l--) {
            BigInteger[] sum = fraction(ZERO, ONE);
            for (int i = 0; i < m; i++) {
                sum = fraction(sum[0].multiply(f[i][1]).add(f[i][0].multiply(columns.cells[l][i]).multiply(sum[1])),
                        sum[1].multiply(f[i][1]));
            }
            int place = columns.places.get(l);
            f[place] = fraction(sum[0].negate(), sum[1].multiply(columns.cells[l][place]));
        }
        List<String> words = new ArrayList<>();
        for (BigInteger[] x : f) {
            BigInteger[] y = pivot >= 0 ? x : fraction(x[0], x[1].multiply(t.unsettled).shiftLeft(1));
            words.add(y[1].equals(ONE) ? y[0].toString() : y[0] + "/" + y[1]);
        }
        return String.join(" ", words);
    }

    boolean isMet(int a, int b, int c, int d) {
        long[] x = {a, b, c, d};
        for (int[] row : s.rows) {
            long sum = 0;
            for (int u = 0; u < s.unknowns; u++) {
                sum += row[u] * x[u];
            }
            if (sum != row[s.unknowns]) {
                return false;
            }
        }
        return true;
    }

    // ---- coins

    private static final int FAR_SUM = 3000;

    private boolean[] paid() {
        boolean[] paid = new boolean[FAR_SUM];
        paid[0] = true;
        for (int coin : s.coins) {
            for (int sum = coin; sum < FAR_SUM; sum++) {
                paid[sum] |= paid[sum - coin];
            }
        }
        return paid;
    }

    private int countPaid(int low, int high) {
        boolean[] paid = paid();
        int count = 0;
        for (int sum = low; sum <= high; sum++) {
            count += paid[sum] ? 1 : 0;
        }
        return count;
    }

    int coin(int value) {
        allow(in(value, 1, 30));
        if (s.coins.size() == 5 || s.coins.contains(value)) {
            throw new IllegalStateException();
        }
        change();
        s.coins.add(value);
        return countPaid(0, 900);
    }

    int uncoin(int value) {
        allow(in(value, 1, 30));
        if (!s.coins.contains(value)) {
            throw new IllegalStateException();
        }
        change();
        s.coins.remove(value);
        return countPaid(0, 900);
    }

    boolean canPay(int sum) {
        allow(in(sum, 0, 900));
        return paid()[sum];
    }

    int payNext(int sum, boolean isAbove) {
        allow(in(sum, 0, 900));
        boolean[] paid = paid();
        for (int other = sum; in(other, 0, 900); other += isAbove ? 1 : -1) {
            if (paid[other]) {
                return other;
            }
        }
        return -1;
    }

    int payable(int low, int high) {
        allow(in(low, 0, 900) && in(high, 0, 900));
        return low > high ? -9 : countPaid(low, high);
    }

    int ofCoins(int what) {
        allow(in(what, 0, 5));
        int g = 0;
        for (int coin : s.coins) {
            g = gcd(g, coin);
        }
        int unpaid = 0;
        int greatest = -1;
        boolean[] paid = paid();
        for (int sum = 0; sum < FAR_SUM; sum++) {
            if (!paid[sum]) {
                unpaid++;
                greatest = sum;
            }
        }
        return switch (what) {
            case 0 -> s.coins.size();
            case 1 -> s.coins.isEmpty() ? -1 : s.coins.first();
            case 2 -> s.coins.isEmpty() ? -1 : s.coins.last();
            case 3 -> g;
            case 4 -> g == 1 ? greatest : -1;
            default -> g == 1 ? unpaid : -1;
        };
    }

    private static long waysOf(List<Integer> coins, int from, int sum, Map<Integer, Long> known) {
        if (sum == 0) {
            return 1;
        }
        if (from == coins.size()) {
            return 0;
        }
        Long before = known.get(from * 1000 + sum);
        if (before != null) {
            return before;
        }
        long count = 0;
        for (int rest = sum; rest >= 0; rest -= coins.get(from)) {
            count += waysOf(coins, from + 1, rest, known);
        }
        known.put(from * 1000 + sum, count);
        return count;
    }

    int ways(int sum) {
        allow(in(sum, 0, 300));
        return (int) waysOf(new ArrayList<>(s.coins), 0, sum, new HashMap<>());
    }

    int fewest(int sum) {
        allow(in(sum, 0, 900));
        boolean[] reached = new boolean[sum + 1];
        reached[0] = true;
        for (int many = 0; many <= 900; many++) {
            if (reached[sum]) {
                return many;
            }
            boolean[] more = new boolean[sum + 1];
            boolean isAny = false;
            for (int old = 0; old <= sum; old++) {
                for (int coin : s.coins) {
                    if (reached[old] && old + coin <= sum) {
                        more[old + coin] = true;
                        isAny = true;
                    }
                }
            }
            if (!isAny) {
                return -1;
            }
            reached = more;
        }
        return -1;
    }

    // ---- lattice

    int lattice(int x1, int y1, int x2, int y2) {
        for (int number : new int[] {x1, y1, x2, y2}) {
            allow(in(number, -99, 99));
        }
        if (x1 * y2 - x2 * y1 == 0) {
            throw new IllegalStateException();
        }
        change();
        s.arrows = new int[] {x1, y1, x2, y2};
        return Math.abs(x1 * y2 - x2 * y1);
    }

    private int turned() {
        return s.arrows[0] * s.arrows[3] - s.arrows[2] * s.arrows[1];
    }

    private boolean isPoint(int x, int y) {
        return (x * s.arrows[3] - y * s.arrows[2]) % turned() == 0 && (s.arrows[0] * y - s.arrows[1] * x) % turned() == 0;
    }

    /** By rings round the place, till no further ring can have a nearer POINT. */
    private int[] near(int x, int y, boolean isOriginLeftOut) {
        int[] best = null;
        for (int ring = 0; best == null || ring * ring <= best[0]; ring++) {
            for (int i = x - ring; i <= x + ring; i++) {
                int step = Math.abs(i - x) == ring || ring == 0 ? 1 : 2 * ring;
                for (int j = y - ring; j <= y + ring; j += step) {
                    if (!isPoint(i, j) || isOriginLeftOut && i == 0 && j == 0) {
                        continue;
                    }
                    int square = (i - x) * (i - x) + (j - y) * (j - y);
                    if (best == null || square < best[0]) {
                        best = new int[] {square, i, j, 1};
                    } else if (square == best[0]) {
                        best[3]++;
                        if (i < best[1] || i == best[1] && j < best[2]) {
                            best[1] = i;
                            best[2] = j;
                        }
                    }
                }
            }
        }
        return best;
    }

    private int second() {
        int[] one = near(0, 0, true);
        int best = Integer.MAX_VALUE;
        for (int ring = 1; (long) ring * ring <= best; ring++) {
            for (int i = -ring; i <= ring; i++) {
                int step = Math.abs(i) == ring ? 1 : 2 * ring;
                for (int j = -ring; j <= ring; j += step) {
                    if (isPoint(i, j) && i * one[2] != j * one[1]) {
                        best = Math.min(best, i * i + j * j);
                    }
                }
            }
        }
        return best;
    }

    int shortest(int what) {
        allow(in(what, 0, 3));
        return switch (what) {
            case 0 -> Math.abs(turned());
            case 1 -> near(0, 0, true)[0];
            case 2 -> second();
            default -> near(0, 0, true)[3];
        };
    }

    int nearest(int x, int y, int what) {
        allow(in(x, -999, 999) && in(y, -999, 999) && in(what, 0, 3));
        return near(x, y, false)[what];
    }

    // ---- jugs

    int jugs(int first, int second) {
        allow(in(first, 1, 30) && in(second, 1, 30));
        change();
        s.sizes = new int[] {first, second};
        s.in = new int[] {0, 0};
        return gcd(first, second);
    }

    private int[] poured(int[] in, int pour) {
        int[] out = in.clone();
        int which = pour % 2;
        if (pour < 2) {
            out[which] = s.sizes[which];
        } else if (pour < 4) {
            out[which] = 0;
        } else {
            while (out[which] > 0 && out[1 - which] < s.sizes[1 - which]) {
                out[which]--;
                out[1 - which]++;
            }
        }
        return out;
    }

    int jug(int pour) {
        allow(in(pour, 0, 5));
        change();
        int[] before = s.in;
        s.in = poured(before, pour);
        return Math.max(Math.abs(s.in[0] - before[0]), Math.abs(s.in[1] - before[1]));
    }

    int inJug(boolean isSecond, boolean isSize) {
        return (isSize ? s.sizes : s.in)[isSecond ? 1 : 0];
    }

    private int leftFrom(int[] start, int goal) {
        Map<Integer, Integer> steps = new HashMap<>();
        Deque<int[]> queue = new ArrayDeque<>();
        queue.add(start);
        steps.put(start[0] * 100 + start[1], 0);
        while (!queue.isEmpty()) {
            int[] in = queue.removeFirst();
            int step = steps.get(in[0] * 100 + in[1]);
            if (in[0] == goal || in[1] == goal) {
                return step;
            }
            for (int pour = 0; pour < 6; pour++) {
                int[] out = poured(in, pour);
                if (steps.putIfAbsent(out[0] * 100 + out[1], step + 1) == null) {
                    queue.addLast(out);
                }
            }
        }
        return -1;
    }

    int left(int goal) {
        allow(in(goal, 0, 30));
        return leftFrom(s.in, goal);
    }

    int next(int goal) {
        int left = left(goal);
        for (int pour = 0; pour < 6 && left > 0; pour++) {
            if (leftFrom(poured(s.in, pour), goal) == left - 1) {
                return pour;
            }
        }
        return -1;
    }

    // ---- undoing, and all

    int undo() {
        if (past.isEmpty()) {
            throw new IllegalStateException();
        }
        s = past.removeLast();
        return past.size();
    }

    int knock() {
        return ++knocks;
    }

    int desk(int what) {
        allow(in(what, 0, 5));
        return new int[] {s.a, s.b, s.c, gcd(s.a, s.b), past.size(), knocks}[what];
    }

    /** All that is asked there is so by itself. */
    boolean isSound() {
        return true;
    }

    long digest() {
        List<Long> v = new ArrayList<>();
        for (int what = 0; what <= 5; what++) {
            v.add((long) desk(what));
        }
        v.add(isSolvable() ? 1L : 0L);
        if (isSolvable()) {
            for (int t = -1; t <= 1; t++) {
                v.add((long) along(t, false));
                v.add((long) along(t, true));
            }
        }
        v.add((long) inBox(-50, 50, -40, 40));
        for (int what = 0; what <= 2; what++) {
            v.add((long) congruent(s.a, s.b, 97, what));
        }
        for (int what = 0; what <= 5; what++) {
            v.add((long) ofSystem(what));
        }
        for (int place = 0; place < s.rows.size(); place++) {
            v.add((long) form(place).length());
        }
        for (int n = 0; n < ofSystem(5); n++) {
            v.add((long) act(n).length());
        }
        v.add((long) diagonal().length());
        v.add((long) answer().length());
        v.add((long) paper().length());
        for (int place = 0; place < ofSystem(3); place++) {
            v.add((long) basis(place).length());
        }
        v.add((long) inCube(2));
        for (int what = 0; what <= 5; what++) {
            v.add((long) ofCoins(what));
        }
        v.add((long) ways(100));
        v.add((long) fewest(97));
        v.add((long) payable(0, 50));
        for (int what = 0; what <= 3; what++) {
            v.add((long) shortest(what));
        }
        for (int what = 0; what <= 3; what++) {
            v.add((long) nearest(17, 29, what));
        }
        for (int which = 0; which < 2; which++) {
            v.add((long) s.in[which]);
            v.add((long) s.sizes[which]);
        }
        for (int goal = 0; goal <= 30; goal++) {
            v.add((long) left(goal));
            v.add((long) next(goal));
        }
        v.add(isSound() ? 1L : 0L);
        long d = 4911;
        for (long x : v) {
            d = d * 31 + x;
        }
        return d;
    }
}
