import java.math.BigInteger;
import java.util.ArrayList;
import java.util.HashMap;
import java.util.List;
import java.util.Map;
import java.util.Set;
import java.util.TreeSet;

/** Compares answers with what the document's terms say when they are followed by plain search. */
public final class FormHouseByDefinition {
    private static final BigInteger ONE = BigInteger.ONE;
    private static final BigInteger ZERO = BigInteger.ZERO;

    private static int wrong = 0;
    private static long seed = 20261115;

    private final int d;
    private final House house = new House();
    private final List<long[]> names = new ArrayList<>();
    private final Map<Long, Integer> classes = new HashMap<>();
    private int reducedCount;
    private int principal;
    private BigInteger[] unit;

    private FormHouseByDefinition(int d) {
        this.d = d;
    }

    public static void main(String[] args) {
        new FormHouseByDefinition(-4).check();
        for (int d = -330; d <= 330; d++) {
            takeAndCheck(d);
        }
        int[] chosen = {-3299, -3896, -4027, -9748, -11199, -5460, -12104, -27 * 81, -4096, -16 * 225, -30 * 4 * 49,
            1596, 2920, 3221, 4481, 4 * 1297, 12180, 9 * 229, 25 * 401, 64 * 65, 4 * 729 * 2, 10001, 99 * 99 * 4 - 4,
            -1048576, -1048575, -1048572, -1048571, 1048572, 1048573, 1048569, 1048568, 1020 * 1020 + 4,
            -1036031, -1021020, 1007161, 1021020, -3 * 512 * 512, 5 * 448 * 448, -4 * 255255, 1000 * 1000 + 1};
        for (int d : chosen) {
            takeAndCheck(d);
        }
        for (int i = 0; i < 120; i++) {
            int bound = i % 3 == 0 ? 5000 : i % 3 == 1 ? 100000 : 1048576;
            takeAndCheck(random(-bound, bound));
        }
        for (int i = 0; i < 40; i++) {
            // With great squares in it: there forms with more than 1 in common are many.
            int f = random(2, 120);
            takeAndCheck(f * f * random(-1048576 / f / f, 1048576 / f / f));
        }
        int[][] crowded = {{4913, -781456, 255}, {11809, -846720, 256}, {280612, -830304, 256}, {90112, 628992, 256},
            {238521, -36980, 258}, {50653, -998001, 259}, {98865, -851760, 260}, {6625, 633600, 270}};
        for (int[] row : crowded) {
            takeAndSolve(row[0], row[1], row[2]);
        }
        System.out.println(wrong == 0 ? "all answers follow from the terms" : wrong + " answers don't follow from the terms");
        if (wrong != 0) {
            System.exit(1);
        }
    }

    private static void takeAndCheck(int d) {
        if (!canBe(d)) {
            return;
        }
        FormHouseByDefinition at = new FormHouseByDefinition(d);
        int many = at.house.take(d);
        at.check();
        at.due("take", many, at.names.size());
    }

    private static void takeAndSolve(int d, int n, int many) {
        FormHouseByDefinition at = new FormHouseByDefinition(d);
        at.house.take(d);
        at.findClasses();
        at.findUnit();
        long[] form = at.formOf(1, d & 1);
        at.due("families of " + n, at.families(form, n).size(), many);
        at.checkSolutions(form, n);
    }

    private static boolean canBe(int d) {
        int r = d < 0 ? 0 : (int) Math.sqrt(d);
        return Math.floorMod(d, 4) < 2 && r * r != d && (r + 1) * (r + 1) != d;
    }

    private void due(String call, Object got, Object want) {
        if (!got.equals(want)) {
            wrong++;
            if (wrong < 100) {
                System.out.println("D = " + d + ": " + call + " is " + got + ", due is " + want);
            }
        }
    }

    private static int random(int from, int to) {
        seed = seed * 6364136223846793005L + 1442695040888963407L;
        return from + (int) Long.remainderUnsigned(seed >>> 16, to - from + 1L);
    }

    private void check() {
        findClasses();
        findUnit();
        checkCounts();
        checkNames();
        checkGroup();
        checkCharacters();
        checkUnit();
        int e = Math.floorMod(d, 2);
        checkHand(new long[] {1, e, (e - d) / 4});
        for (int i = 0; i < 2; i++) {
            long[] form = randomForm();
            due("ask", house.ask((int) form[0], (int) form[1], (int) form[2]), classOf(form));
            checkHand(form);
            due("count(12)", house.get().count(12), 0);
            due("count(13)", house.get().count(13), 0);
            for (int j = 0; j < 3; j++) {
                checkSolutions(form, numberToSolve(form));
                checkTellers(numberToSolve(form));
            }
        }
    }

    /** Often one to which the form comes, or one that many squares go into. */
    private int numberToSolve(long[] f) {
        int[] squares = {1, 2, 36, 64, 720, 729, 900, 441, 1225, 14400, 44100, 5184, 1000000, 999999, 720720};
        int how = random(0, 2);
        int n = how == 0 ? squares[random(0, squares.length - 1)] : random(1, 3000);
        if (how == 1) {
            long[] name = names.get(classOf(f));
            int g = random(1, 6);
            int x = g * random(-4, 4);
            int y = g * random(-4, 4);
            n = (int) (name[0] * x * x + name[1] * x * y + name[2] * y * y);
        } else if (d > 0 && random(0, 1) == 0) {
            n = -n;
        }
        return n == 0 || Math.abs(n) > 1000000 ? random(1, 300) : n;
    }

    /** A house that is made anew, with what was taken, asked, solved and told, ahead of the 512th call. */
    private static final class House {
        private FormHouse now = new FormHouse();
        private int calls;
        private int[] taken;
        private int[] asked;
        private int[] solved;
        private int[] told;

        FormHouse get() {
            if (calls == 512) {
                now = new FormHouse();
                calls = 0;
                redo();
            }
            calls++;
            return now;
        }

        private void redo() {
            if (taken != null) {
                calls++;
                now.take(taken[0]);
            }
            if (asked != null) {
                calls++;
                now.ask(asked[0], asked[1], asked[2]);
            }
            if (solved != null) {
                calls++;
                now.solve(solved[0]);
            }
            if (told != null) {
                calls++;
                now.tellers(told[0]);
            }
        }

        int take(int d) {
            taken = new int[] {d};
            return get().take(d);
        }

        int ask(int a, int b, int c) {
            int kind = get().ask(a, b, c);
            asked = new int[] {a, b, c};
            solved = null;
            return kind;
        }

        int solve(int n) {
            int many = get().solve(n);
            solved = new int[] {n};
            return many;
        }

        int tellers(int n) {
            int many = get().tellers(n);
            told = new int[] {n};
            return many;
        }
    }

    // Classes

    private boolean isReduced(long[] f) {
        long a = f[0];
        long b = f[1];
        if (d < 0) {
            return Math.abs(b) <= a && a <= f[2] && (b >= 0 || (Math.abs(b) != a && a != f[2]));
        }
        long sum = 2 * Math.abs(a) + b;
        long difference = 2 * Math.abs(a) - b;
        return b > 0 && b * b < d && sum * sum > d && (difference <= 0 || difference * difference < d);
    }

    /** The next form, and the last number of the step's matrix. */
    private long[] next(long[] f) {
        long size = Math.abs(f[2]);
        long e;
        if (d < 0 || size * size > d) {
            e = size;
        } else {
            e = (long) Math.sqrt(d) + 1;
            while (e * e >= d) {
                e--;
            }
        }
        e -= Math.floorMod(f[1] + e, 2 * size);
        return new long[] {f[2], e, (e * e - d) / (4 * f[2]), (f[1] + e) / (2 * f[2])};
    }

    private static long key(long[] f) {
        return f[0] * 1000000007L + f[1];
    }

    private long[] formOf(long a, long b) {
        return new long[] {a, b, (b * b - d) / (4 * a)};
    }

    private void findClasses() {
        long top = 1;
        while (top * top < Math.abs((long) d)) {
            top++;
        }
        List<long[]> reduced = new ArrayList<>();
        for (long a = -top; a <= top; a++) {
            for (long b = -top; a != 0 && b <= top; b++) {
                if ((b * b - d) % (4 * a) == 0) {
                    long[] f = formOf(a, b);
                    if ((d > 0 || a > 0) && common(common(a, b), f[2]) == 1 && isReduced(f)) {
                        reduced.add(f);
                    }
                }
            }
        }
        reducedCount = reduced.size();
        // They come in their order, so the first of each class is its name.
        for (long[] f : reduced) {
            if (!classes.containsKey(key(f))) {
                long[] at = f;
                do {
                    classes.put(key(at), names.size());
                    at = next(at);
                } while (d > 0 && key(at) != key(f));
                names.add(f);
            }
        }
        int e = Math.floorMod(d, 2);
        principal = classOf(new long[] {1, e, (e - d) / 4});
    }

    private int classOf(long[] form) {
        long[] at = form;
        while (!isReduced(at)) {
            at = next(at);
        }
        return classes.get(key(at));
    }

    private int someClass() {
        return random(0, names.size() - 1);
    }

    private void checkCounts() {
        due("count(0)", house.get().count(0), d);
        due("count(1)", house.get().count(1), names.size());
        due("count(3)", house.get().count(3), principal);
        due("count(5)", house.get().count(5), reducedCount);
        int units = 0;
        for (int t = -2; t <= 2; t++) {
            for (int u = -2; u <= 2; u++) {
                units += (long) t * t - (long) d * u * u == 4 ? 1 : 0;
            }
        }
        due("count(7)", house.get().count(7), d < 0 ? units : -1);
        due("count(8)", house.get().count(8), unit[2].signum());
    }

    private void checkNames() {
        for (int i = 0; i < 24; i++) {
            int k = names.size() <= 24 ? Math.min(i, names.size() - 1) : someClass();
            for (int what = 0; what < 3; what++) {
                due("name(" + k + ", " + what + ")", house.get().name(k, what), (int) names.get(k)[what]);
            }
        }
    }

    // The group

    private int product(int j, int k) {
        long[] f = names.get(j);
        long[] h = names.get(k);
        long g = common(common(f[0], h[0]), (f[1] + h[1]) / 2);
        long a = f[0] * h[0] / (g * g);
        for (long b = f[1]; ; b += 2 * f[0] / g) {
            if ((b - h[1]) % (2 * h[0] / g) == 0
                    && ((f[1] + h[1]) / (2 * g) * b - (f[1] * h[1] + d) / (2 * g)) % (2 * a) == 0) {
                return classOf(formOf(a, b));
            }
        }
    }

    private int power(int k, int n) {
        int answer = principal;
        int base = k;
        for (int left = n; left > 0; left /= 2) {
            answer = left % 2 == 1 ? product(answer, base) : answer;
            base = product(base, base);
        }
        return answer;
    }

    /** From the number of classes, of which each prime is taken away as often as can be. */
    private int orderOf(int k) {
        int order = names.size();
        for (int p : primesIn(names.size())) {
            while (order % p == 0 && power(k, order / p) == principal) {
                order /= p;
            }
        }
        return order;
    }

    private static List<Integer> primesIn(int n) {
        List<Integer> all = new ArrayList<>();
        for (int p = 2; p <= n; p++) {
            if (n % p == 0 && isPrime(p)) {
                all.add(p);
            }
        }
        return all;
    }

    private void checkGroup() {
        int[] orders = new int[names.size()];
        int greatest = 1;
        for (int k = 0; k < names.size(); k++) {
            orders[k] = orderOf(k);
            greatest = Math.max(greatest, orders[k]);
        }
        due("count(4)", house.get().count(4), greatest);
        checkGenerators(orders);
        for (int i = 0; i < 12; i++) {
            int k = someClass();
            int j = someClass();
            int n = random(-100, 100);
            due("product(" + j + ", " + k + ")", house.get().product(j, k), product(j, k));
            due("order(" + k + ")", house.get().order(k), orders[k]);
            due("inverse(" + k + ")", house.get().inverse(k), power(k, orders[k] - 1));
            due("power(" + k + ", " + n + ")", house.get().power(k, n), power(k, Math.floorMod(n, orders[k])));
        }
    }

    private void checkGenerators(int[] orders) {
        Map<Integer, List<Integer>> made = new HashMap<>();
        made.put(principal, new ArrayList<>());
        int count = 0;
        int best = bestApart(orders, made.keySet());
        while (best >= 0) {
            due("generator(" + count + ")", house.get().generator(count), best);
            Map<Integer, List<Integer>> more = new HashMap<>();
            for (int k : made.keySet()) {
                int at = k;
                for (int n = 0; n < orders[best]; n++) {
                    List<Integer> exponents = new ArrayList<>(made.get(k));
                    exponents.add(n);
                    more.put(at, exponents);
                    at = product(at, best);
                }
            }
            made = more;
            count++;
            best = bestApart(orders, made.keySet());
        }
        due("count(2)", house.get().count(2), count);
        due("classes that the generators make", made.size(), names.size());
        for (int i = 0; i < 12; i++) {
            int k = someClass();
            for (int j = 0; j < count; j++) {
                due("exponent(" + k + ", " + j + ")", house.get().exponent(k, j), made.get(k).get(j));
            }
        }
    }

    private int bestApart(int[] orders, Set<Integer> made) {
        int best = -1;
        for (int k = 0; k < names.size(); k++) {
            if (k != principal && (best < 0 || orders[k] > orders[best]) && isApart(k, orders[k], made)) {
                best = k;
            }
        }
        return best;
    }

    /** If a power but the principal class is made, then so is one whose order is a prime. */
    private boolean isApart(int k, int order, Set<Integer> made) {
        for (int p : primesIn(order)) {
            if (made.contains(power(k, order / p))) {
                return false;
            }
        }
        return true;
    }

    // Characters and symbols

    private void checkCharacters() {
        int count = 0;
        for (int p = 3; p <= Math.abs(d); p += 2) {
            if (d % p == 0 && isPrime(p)) {
                due("prime(" + count + ")", house.get().prime(count), p);
                for (int i = 0; i < 3; i++) {
                    int k = someClass();
                    due("character(" + k + ", " + count + ")", house.get().character(k, count), characterOf(k, p));
                }
                count++;
            }
        }
        due("count(6)", house.get().count(6), count);
        for (int i = 0; i < 8; i++) {
            int bound = i < 4 ? 400 : 4194304;
            int n = random(-bound, bound);
            due("kronecker(" + n + ")", house.get().kronecker(n), kronecker(n));
        }
    }

    private int characterOf(int k, int p) {
        long[] f = names.get(k);
        while (true) {
            long x = random(-p, p);
            long y = random(-p, p);
            long n = (f[0] * x + f[1] * y) % p * x + f[2] * y % p * y;
            if (n % p != 0) {
                return squareSign(n, p);
            }
        }
    }

    private static int squareSign(long n, int p) {
        if (n % p == 0) {
            return 0;
        }
        for (long x = 1; 2 * x <= p; x++) {
            if ((x * x - n) % p == 0) {
                return 1;
            }
        }
        return -1;
    }

    private int kronecker(int n) {
        if (n == 0) {
            return 0;
        }
        int answer = n < 0 && d < 0 ? -1 : 1;
        int left = Math.abs(n);
        for (int p = 2; left > 1; p++) {
            while (left % p == 0) {
                left /= p;
                int rest = Math.floorMod(d, 8);
                int two = rest % 2 == 0 ? 0 : rest == 1 || rest == 7 ? 1 : -1;
                answer *= p == 2 ? two : squareSign(d, p);
            }
        }
        return answer;
    }

    private static boolean isPrime(int p) {
        for (int q = 2; q * q <= p; q++) {
            if (p % q == 0) {
                return false;
            }
        }
        return p > 1;
    }

    private static long common(long x, long y) {
        return y == 0 ? Math.abs(x) : common(y, x % y);
    }

    // Units

    private static BigInteger big(long n) {
        return BigInteger.valueOf(n);
    }

    /** By the continued fraction of (e + R) / 2, of which each such unit is a convergent. */
    private void findUnit() {
        if (d < 0) {
            unit = new BigInteger[] {big(d == -3 ? 1 : d == -4 ? 0 : 2), big(d >= -4 ? 1 : 0), ZERO, ZERO};
            return;
        }
        unit = new BigInteger[] {ZERO, ZERO, ZERO, ZERO};
        long floor = (long) Math.sqrt(d);
        int e = d & 1;
        long above = e;
        long below = 2;
        BigInteger p = ONE;
        BigInteger oldP = ZERO;
        BigInteger q = ZERO;
        BigInteger oldQ = ONE;
        while (unit[0].signum() == 0) {
            long part = (above + floor) / below;
            BigInteger newP = p.multiply(big(part)).add(oldP);
            BigInteger newQ = q.multiply(big(part)).add(oldQ);
            oldP = p;
            p = newP;
            oldQ = q;
            q = newQ;
            keepUnit(p.shiftLeft(1).subtract(q.multiply(big(e))), q);
            above = part * below - above;
            below = (d - above * above) / below;
        }
    }

    private void keepUnit(BigInteger t, BigInteger u) {
        BigInteger four = t.multiply(t).subtract(u.multiply(u).multiply(big(d)));
        if (four.equals(big(4))) {
            unit[0] = t;
            unit[1] = u;
        } else if (four.equals(big(-4)) && unit[2].signum() == 0) {
            unit[2] = t;
            unit[3] = u;
        }
    }

    private BigInteger number(int i) {
        int bits = house.get().bits(i);
        BigInteger size = ZERO;
        for (int k = (bits + 31) / 32; k >= 0; k--) {
            size = size.shiftLeft(32).add(big(house.get().word(i, k) & 0xFFFFFFFFL));
        }
        due("bits(" + i + ")", bits, size.bitLength());
        int sign = house.get().sign(i);
        BigInteger all = sign < 0 ? size.negate() : size;
        due("sign(" + i + ")", sign, all.signum());
        int m = random(0, 1) == 0 ? random(1, 100) : random(1, 2147483647);
        due("residue(" + i + ", " + m + ")", house.get().residue(i, m), all.mod(big(m)).intValue());
        return all;
    }

    private void checkUnit() {
        for (int i = 0; i < 4; i++) {
            due("number " + (4 + i), number(4 + i), unit[i]);
        }
    }

    // The form at hand

    private long[] randomForm() {
        long[] f = names.get(someClass());
        for (int i = random(0, 2) == 0 ? 60 : random(0, 6); i > 0; i--) {
            long k = random(-4, 4);
            long[] g = random(0, 1) == 0
                ? new long[] {f[0], f[1] + 2 * f[0] * k, f[0] * k * k + f[1] * k + f[2]}
                : new long[] {f[0] + f[1] * k + f[2] * k * k, f[1] + 2 * f[2] * k, f[2]};
            if (Math.max(Math.abs(g[0]), Math.max(Math.abs(g[1]), Math.abs(g[2]))) > 1 << 30) {
                return f;
            }
            f = g;
        }
        return f;
    }

    private void checkHand(long[] form) {
        BigInteger[] m = {ONE, ZERO, ZERO, ONE};
        int steps = 0;
        int early = -1;
        long[] at = form;
        int k = classOf(form);
        while (early < 0 || key(at) != key(names.get(k))) {
            if (early < 0 && isReduced(at)) {
                early = steps;
                continue;
            }
            at = next(at);
            BigInteger turn = big(at[3]);
            m = new BigInteger[] {m[1], m[1].multiply(turn).subtract(m[0]), m[3], m[3].multiply(turn).subtract(m[2])};
            steps++;
        }
        due("count(9)", house.get().count(9), k);
        due("count(10)", house.get().count(10), steps);
        due("count(11)", house.get().count(11), early);
        BigInteger[] matrix = {m[3], m[1].negate(), m[2].negate(), m[0]};
        BigInteger[] automorph = automorph(form);
        for (int i = 0; i < 4; i++) {
            due("number " + i, number(i), matrix[i]);
            due("number " + (8 + i), number(8 + i), automorph[i]);
        }
        for (int what = 0; what < 3; what++) {
            due("form(" + what + ")", house.get().form(what), (int) form[what]);
        }
    }

    private BigInteger[] automorph(long[] f) {
        BigInteger t = unit[0];
        BigInteger u = unit[1];
        BigInteger bu = u.multiply(big(f[1]));
        return new BigInteger[] {t.subtract(bu).shiftRight(1), u.multiply(big(-f[2])), u.multiply(big(f[0])),
            t.add(bu).shiftRight(1)};
    }

    // Solutions

    private List<int[]> families(long[] form, int n) {
        List<int[]> all = new ArrayList<>();
        int kind = classOf(form);
        for (int g = 1; g * g <= Math.abs(n); g++) {
            if (n % (g * g) == 0) {
                int m = n / (g * g);
                for (int b : rootsOf(m)) {
                    if (classOf(formOf(m, b)) == kind) {
                        all.add(new int[] {g, b});
                    }
                }
            }
        }
        return all;
    }

    private List<Integer> rootsOf(int m) {
        List<Integer> all = new ArrayList<>();
        long four = 4L * Math.abs(m);
        // D is like b modulo 2.
        for (int b = d & 1; b < 2 * Math.abs(m) && (d > 0 || m > 0); b += 2) {
            long rest = (long) b * b - d;
            if (rest % four == 0 && common(common(m, b), rest / four) == 1) {
                all.add(b);
            }
        }
        return all;
    }

    private void checkSolutions(long[] form, int n) {
        List<int[]> families = families(form, n);
        if (families.size() > 256) {
            checkTooMany(n);
            return;
        }
        due("solve(" + n + ")", house.solve(n), families.size());
        due("count(12)", house.get().count(12), families.size());
        due("count(13)", house.get().count(13), n);
        int first = families.size() <= 6 ? 0 : random(0, families.size() - 6);
        for (int i = first; i < families.size() && i < first + 6; i++) {
            due("divisor(" + i + ")", house.get().divisor(i), families.get(i)[0]);
            due("root(" + i + ")", house.get().root(i), families.get(i)[1]);
            checkTold(form, n, families.get(i), number(12 + 2 * i), number(13 + 2 * i));
        }
    }

    private void checkTooMany(int n) {
        String got = "nothing";
        try {
            house.solve(n);
        } catch (IllegalStateException e) {
            got = "IllegalStateException";
        }
        due("solve(" + n + ") throws", got, "IllegalStateException");
    }

    private void checkTold(long[] f, int n, int[] family, BigInteger x, BigInteger y) {
        BigInteger value = big(f[0]).multiply(x).multiply(x).add(big(f[1]).multiply(x).multiply(y))
            .add(big(f[2]).multiply(y).multiply(y));
        due("what the form comes to at " + x + " " + y, value, big(n));
        due("the divisor of " + x + " " + y, x.gcd(y), big(family[0]));
        due("the root of " + x + " " + y, rootAt(f, n, family[0], x, y), big(family[1]));
        BigInteger[] told = {x, y};
        BigInteger[] least = told;
        for (BigInteger[] v : near(f, told)) {
            least = tellsBefore(v, least) ? v : least;
        }
        due("the solution that tells", x + " " + y, least[0] + " " + least[1]);
    }

    /** With x s - y q = g, the middle number of the form to which (x, q, y, s), all but q and s by g, takes f. */
    private static BigInteger rootAt(long[] f, int n, int divisor, BigInteger x, BigInteger y) {
        BigInteger g = big(divisor);
        BigInteger v = x.divide(g);
        BigInteger w = y.divide(g);
        BigInteger s = w.signum() == 0 ? v : w.abs().equals(ONE) ? ZERO : v.modInverse(w.abs());
        BigInteger q = w.signum() == 0 ? ZERO : v.multiply(s).subtract(ONE).divide(w);
        BigInteger b = big(2 * f[0]).multiply(v).multiply(q)
            .add(big(f[1]).multiply(v.multiply(s).add(q.multiply(w))))
            .add(big(2 * f[2]).multiply(w).multiply(s));
        return b.mod(big(2L * Math.abs(n / (divisor * divisor))));
    }

    /** Those to which the automorph takes the solution three times there and back, with either sign: |y| is convex. */
    private List<BigInteger[]> near(long[] f, BigInteger[] told) {
        BigInteger[] m = automorph(f);
        BigInteger[] back = {m[3], m[1].negate(), m[2].negate(), m[0]};
        List<BigInteger[]> all = new ArrayList<>();
        BigInteger[] v = told;
        BigInteger[] w = told;
        for (int i = 0; i < 4; i++) {
            for (BigInteger[] point : List.of(v, w)) {
                all.add(point);
                all.add(new BigInteger[] {point[0].negate(), point[1].negate()});
            }
            v = apply(m, v);
            w = apply(back, w);
        }
        return all;
    }

    private static BigInteger[] apply(BigInteger[] m, BigInteger[] v) {
        return new BigInteger[] {m[0].multiply(v[0]).add(m[1].multiply(v[1])),
            m[2].multiply(v[0]).add(m[3].multiply(v[1]))};
    }

    private static boolean tellsBefore(BigInteger[] v, BigInteger[] w) {
        int byY = v[1].abs().compareTo(w[1].abs());
        int byX = v[0].abs().compareTo(w[0].abs());
        if (byY != 0 || byX != 0) {
            return byY != 0 ? byY < 0 : byX < 0;
        }
        if (isUp(v) != isUp(w)) {
            return isUp(v);
        }
        return v[0].signum() > w[0].signum();
    }

    private static boolean isUp(BigInteger[] v) {
        return v[1].signum() > 0 || (v[1].signum() == 0 && v[0].signum() > 0);
    }

    private void checkTellers(int n) {
        Set<Integer> all = new TreeSet<>();
        for (int b : rootsOf(n)) {
            all.add(classOf(formOf(n, b)));
        }
        due("tellers(" + n + ")", house.tellers(n), all.size());
        due("count(14)", house.get().count(14), all.size());
        int i = 0;
        for (int k : all) {
            if (i < 40) {
                due("teller(" + i + ")", house.get().teller(i), k);
            }
            i++;
        }
    }
}
