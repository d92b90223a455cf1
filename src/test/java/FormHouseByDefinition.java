import java.math.BigInteger;
import java.util.ArrayList;
import java.util.HashMap;
import java.util.HashSet;
import java.util.List;
import java.util.Map;
import java.util.Set;
import java.util.TreeMap;

/** Compares answers with what the document's terms say when they are followed by plain search. */
public final class FormHouseByDefinition {
    private static int wrong = 0;
    private static long seed = 20261115;

    private final int d;
    private final FormHouse house;
    private final List<long[]> names = new ArrayList<>();
    private final Map<String, Integer> classes = new HashMap<>();
    private int reducedCount;
    private int principal;
    private BigInteger[] unit;

    private FormHouseByDefinition(int d, FormHouse house) {
        this.d = d;
        this.house = house;
    }

    public static void main(String[] args) {
        FormHouse house = new FormHouse();
        new FormHouseByDefinition(-4, house).checkAll();
        for (int d = -330; d <= 330; d++) {
            if (canBe(d)) {
                new FormHouseByDefinition(d, new FormHouse()).takeAndCheck();
            }
        }
        int[] more = {-3299, -3896, -4027, -9748, -11199, -5460, -12104, -27 * 81, -4096, -16 * 225, -30 * 4 * 49,
            1596, 2920, 3221, 4481, 4 * 1297, 12180, 9 * 229, 25 * 401, 64 * 65, 4 * 729 * 2, 10001, 99 * 99 * 4 - 4};
        for (int extra : more) {
            if (canBe(extra)) {
                new FormHouseByDefinition(extra, new FormHouse()).takeAndCheck();
            }
        }
        System.out.println(wrong == 0 ? "all answers follow from the terms" : wrong + " answers don't follow from the terms");
        if (wrong != 0) {
            System.exit(1);
        }
    }

    private static boolean canBe(int d) {
        if (Math.floorMod(d, 4) > 1) {
            return false;
        }
        for (int r = 0; r * r <= d; r++) {
            if (r * r == d) {
                return false;
            }
        }
        return true;
    }

    private void due(String call, Object got, Object want) {
        if (!got.equals(want)) {
            wrong++;
            if (wrong < 100) {
                System.out.println("D = " + d + ": " + call + " is " + got + ", due is " + want);
            }
        }
    }

    private static int random(int from, int to) {
        seed = seed * 6364136223846793005L + 1442695040888963407L;
        return from + (int) Long.remainderUnsigned(seed >>> 16, to - from + 1L);
    }

    private void takeAndCheck() {
        findClasses();
        due("take", house.take(d), names.size());
        check();
    }

    private void checkAll() {
        findClasses();
        check();
    }

    private void check() {
        findUnit();
        checkCounts();
        checkNames();
        checkGroup();
        checkCharacters();
        checkUnit();
        int e = Math.floorMod(d, 2);
        checkHand(new long[] {1, e, (e - d) / 4});
        for (int i = 0; i < 2; i++) {
            long[] form = randomForm();
            due("ask", house.ask((int) form[0], (int) form[1], (int) form[2]), classOf(form));
            checkHand(form);
            due("count(12)", house.count(12), 0);
            due("count(13)", house.count(13), 0);
            int n = random(0, 3) == 0 ? new int[] {720, 900, 441, 1225, 64, 729}[random(0, 5)] : random(1, 300);
            checkSolutions(form, d > 0 && random(0, 1) == 0 ? -n : n);
            checkTellers(d > 0 && random(0, 1) == 0 ? -n : n);
        }
    }

    // Classes

    private boolean isReduced(long[] f) {
        long a = f[0];
        long b = f[1];
        if (d < 0) {
            return Math.abs(b) <= a && a <= f[2] && (b >= 0 || (Math.abs(b) != a && a != f[2]));
        }
        long sum = 2 * Math.abs(a) + b;
        long difference = 2 * Math.abs(a) - b;
        return b > 0 && b * b < d && sum * sum > d && (difference <= 0 || difference * difference < d);
    }

    /** The next form, and the last number of the step's matrix. */
    private long[] next(long[] f) {
        long size = Math.abs(f[2]);
        long e;
        if (d < 0 || size * size > d) {
            e = size;
        } else {
            e = (long) Math.sqrt(d) + 1;
            while (e * e >= d) {
                e--;
            }
        }
        e -= Math.floorMod(f[1] + e, 2 * size);
        return new long[] {f[2], e, (e * e - d) / (4 * f[2]), (f[1] + e) / (2 * f[2])};
    }

    private static String key(long[] f) {
        return f[0] + " " + f[1];
    }

    private void findClasses() {
        long top = 1;
        while (top * top < Math.abs((long) d)) {
            top++;
        }
        List<long[]> reduced = new ArrayList<>();
        for (long a = -top; a <= top; a++) {
            for (long b = -top; a != 0 && b <= top; b++) {
                if ((b * b - d) % (4 * a) == 0) {
                    long[] f = {a, b, (b * b - d) / (4 * a)};
                    if ((d > 0 || a > 0) && common(common(a, b), f[2]) == 1 && isReduced(f)) {
                        reduced.add(f);
                    }
                }
            }
        }
        reducedCount = reduced.size();
        // They come in their order, so the first of each class is its name.
        for (long[] f : reduced) {
            if (!classes.containsKey(key(f))) {
                long[] at = f;
                do {
                    classes.put(key(at), names.size());
                    at = next(at);
                } while (d > 0 && !key(at).equals(key(f)));
                names.add(f);
            }
        }
        int e = Math.floorMod(d, 2);
        principal = classOf(new long[] {1, e, (e - d) / 4});
    }

    private int classOf(long[] form) {
        long[] at = form;
        while (!isReduced(at)) {
            at = next(at);
        }
        return classes.get(key(at));
    }

    private void checkCounts() {
        due("count(0)", house.count(0), d);
        due("count(1)", house.count(1), names.size());
        due("count(3)", house.count(3), principal);
        due("count(5)", house.count(5), reducedCount);
        int units = 0;
        for (int t = -2; t <= 2; t++) {
            for (int u = -2; u <= 2; u++) {
                units += t * t - d * u * u == 4 ? 1 : 0;
            }
        }
        due("count(7)", house.count(7), d < 0 ? units : -1);
        due("count(8)", house.count(8), unit[2].signum());
    }

    private void checkNames() {
        for (int k = 0; k < names.size() && k < 20; k++) {
            for (int what = 0; what < 3; what++) {
                due("name(" + k + ", " + what + ")", house.name(k, what), (int) names.get(k)[what]);
            }
        }
    }

    // The group

    private int product(int j, int k) {
        long[] f = names.get(j);
        long[] h = names.get(k);
        long g = common(common(f[0], h[0]), (f[1] + h[1]) / 2);
        long a = f[0] * h[0] / (g * g);
        for (long b = 0; ; b++) {
            if ((b - f[1]) % (2 * f[0] / g) == 0 && (b - h[1]) % (2 * h[0] / g) == 0
                    && ((f[1] + h[1]) / (2 * g) * b - (f[1] * h[1] + d) / (2 * g)) % (2 * a) == 0) {
                return classOf(new long[] {a, b, (b * b - d) / (4 * a)});
            }
        }
    }

    private List<Integer> powers(int k) {
        List<Integer> all = new ArrayList<>();
        int at = principal;
        do {
            all.add(at);
            at = product(at, k);
        } while (at != principal);
        return all;
    }

    private void checkGroup() {
        List<List<Integer>> powers = new ArrayList<>();
        int greatest = 1;
        for (int k = 0; k < names.size(); k++) {
            powers.add(powers(k));
            greatest = Math.max(greatest, powers.get(k).size());
        }
        due("count(4)", house.count(4), greatest);
        checkGenerators(powers);
        for (int i = 0; i < 12; i++) {
            int k = random(0, names.size() - 1);
            int j = random(0, names.size() - 1);
            int n = random(-100, 100);
            List<Integer> all = powers.get(k);
            due("product(" + j + ", " + k + ")", house.product(j, k), product(j, k));
            due("order(" + k + ")", house.order(k), all.size());
            due("inverse(" + k + ")", house.inverse(k), all.get(all.size() - 1));
            due("power(" + k + ", " + n + ")", house.power(k, n), all.get(Math.floorMod(n, all.size())));
        }
    }

    private void checkGenerators(List<List<Integer>> powers) {
        Map<Integer, List<Integer>> made = new HashMap<>();
        made.put(principal, new ArrayList<>());
        int count = 0;
        int best = bestApart(powers, made.keySet());
        while (best >= 0) {
            due("generator(" + count + ")", house.generator(count), best);
            Map<Integer, List<Integer>> more = new HashMap<>();
            for (int k : made.keySet()) {
                for (int n = 0; n < powers.get(best).size(); n++) {
                    List<Integer> exponents = new ArrayList<>(made.get(k));
                    exponents.add(n);
                    more.put(product(k, powers.get(best).get(n)), exponents);
                }
            }
            made = more;
            count++;
            best = bestApart(powers, made.keySet());
        }
        due("count(2)", house.count(2), count);
        due("classes that the generators make", made.size(), names.size());
        for (int i = 0; i < 12; i++) {
            int k = random(0, names.size() - 1);
            for (int j = 0; j < count; j++) {
                due("exponent(" + k + ", " + j + ")", house.exponent(k, j), made.get(k).get(j));
            }
        }
    }

    private int bestApart(List<List<Integer>> powers, Set<Integer> made) {
        int best = -1;
        for (int k = 0; k < names.size(); k++) {
            boolean apart = k != principal;
            for (int n = 1; n < powers.get(k).size(); n++) {
                apart = apart && !made.contains(powers.get(k).get(n));
            }
            if (apart && (best < 0 || powers.get(k).size() > powers.get(best).size())) {
                best = k;
            }
        }
        return best;
    }

    // Characters and symbols

    private void checkCharacters() {
        int count = 0;
        for (int p = 3; p <= Math.abs(d); p += 2) {
            if (d % p == 0 && isPrime(p)) {
                due("prime(" + count + ")", house.prime(count), p);
                int k = random(0, names.size() - 1);
                due("character(" + k + ", " + count + ")", house.character(k, count), characterOf(k, p));
                count++;
            }
        }
        due("count(6)", house.count(6), count);
        for (int i = 0; i < 8; i++) {
            int n = random(-400, 400);
            due("kronecker(" + n + ")", house.kronecker(n), kronecker(n));
        }
    }

    private int characterOf(int k, int p) {
        long[] f = names.get(k);
        while (true) {
            long x = random(-p, p);
            long y = random(-p, p);
            long n = f[0] * x * x + f[1] * x * y + f[2] * y * y;
            if (n % p != 0) {
                return squareSign(n, p);
            }
        }
    }

    private static int squareSign(long n, int p) {
        if (n % p == 0) {
            return 0;
        }
        for (long x = 1; x < p; x++) {
            if ((x * x - n) % p == 0) {
                return 1;
            }
        }
        return -1;
    }

    private int kronecker(int n) {
        if (n == 0) {
            return 0;
        }
        int answer = n < 0 && d < 0 ? -1 : 1;
        int left = Math.abs(n);
        for (int p = 2; left > 1; p++) {
            while (left % p == 0) {
                left /= p;
                int rest = Math.floorMod(d, 8);
                int two = rest % 2 == 0 ? 0 : rest == 1 || rest == 7 ? 1 : -1;
                answer *= p == 2 ? two : squareSign(d, p);
            }
        }
        return answer;
    }

    private static boolean isPrime(int p) {
        for (int q = 2; q * q <= p; q++) {
            if (p % q == 0) {
                return false;
            }
        }
        return p > 1;
    }

    private static long common(long x, long y) {
        return y == 0 ? Math.abs(x) : common(y, x % y);
    }

    // Units

    private static BigInteger big(long n) {
        return BigInteger.valueOf(n);
    }

    /** By the continued fraction of (e + R) / 2, of which each such unit is a convergent. */
    private void findUnit() {
        BigInteger none = BigInteger.ZERO;
        if (d < 0) {
            unit = new BigInteger[] {big(d == -3 ? 1 : d == -4 ? 0 : 2), big(d >= -4 ? 1 : 0), none, none};
            return;
        }
        unit = new BigInteger[] {none, none, none, none};
        long floor = (long) Math.sqrt(d);
        int e = d & 1;
        long above = e;
        long below = 2;
        BigInteger p = BigInteger.ONE;
        BigInteger oldP = none;
        BigInteger q = none;
        BigInteger oldQ = BigInteger.ONE;
        while (unit[0].signum() == 0) {
            long part = (above + floor) / below;
            BigInteger newP = p.multiply(big(part)).add(oldP);
            BigInteger newQ = q.multiply(big(part)).add(oldQ);
            oldP = p;
            p = newP;
            oldQ = q;
            q = newQ;
            BigInteger t = p.shiftLeft(1).subtract(q.multiply(big(e)));
            BigInteger four = t.multiply(t).subtract(q.multiply(q).multiply(big(d)));
            if (four.equals(big(4))) {
                unit[0] = t;
                unit[1] = q;
            } else if (four.equals(big(-4)) && unit[2].signum() == 0) {
                unit[2] = t;
                unit[3] = q;
            }
            above = part * below - above;
            below = (d - above * above) / below;
        }
    }

    private BigInteger number(int i) {
        int bits = house.bits(i);
        BigInteger size = BigInteger.ZERO;
        for (int k = (bits + 31) / 32; k >= 0; k--) {
            size = size.shiftLeft(32).add(big(house.word(i, k) & 0xFFFFFFFFL));
        }
        due("bits(" + i + ")", bits, size.bitLength());
        BigInteger all = house.sign(i) < 0 ? size.negate() : size;
        due("sign(" + i + ")", house.sign(i), all.signum());
        int m = random(1, 2147483647);
        due("residue(" + i + ", " + m + ")", house.residue(i, m), all.mod(big(m)).intValue());
        return all;
    }

    private void checkUnit() {
        for (int i = 0; i < 4; i++) {
            due("number " + (4 + i), number(4 + i), unit[i]);
        }
    }

    // The form at hand

    private long[] randomForm() {
        long[] f = names.get(random(0, names.size() - 1));
        for (int i = random(0, 3) == 0 ? 60 : random(0, 6); i > 0; i--) {
            long k = random(-4, 4);
            long[] g = random(0, 1) == 0
                ? new long[] {f[0], f[1] + 2 * f[0] * k, f[0] * k * k + f[1] * k + f[2]}
                : new long[] {f[0] + f[1] * k + f[2] * k * k, f[1] + 2 * f[2] * k, f[2]};
            if (Math.max(Math.abs(g[0]), Math.max(Math.abs(g[1]), Math.abs(g[2]))) > 1 << 30) {
                return f;
            }
            f = g;
        }
        return f;
    }

    private void checkHand(long[] form) {
        BigInteger[] m = {BigInteger.ONE, BigInteger.ZERO, BigInteger.ZERO, BigInteger.ONE};
        int steps = 0;
        int early = 0;
        long[] at = form;
        int k = classOf(form);
        while (!isReduced(at) || !key(at).equals(key(names.get(k)))) {
            early += isReduced(at) || early < steps ? 0 : 1;
            at = next(at);
            BigInteger turn = big(at[3]);
            m = new BigInteger[] {m[1], m[1].multiply(turn).subtract(m[0]), m[3], m[3].multiply(turn).subtract(m[2])};
            steps++;
        }
        due("count(9)", house.count(9), k);
        due("count(10)", house.count(10), steps);
        due("count(11)", house.count(11), early);
        BigInteger[] matrix = {m[3], m[1].negate(), m[2].negate(), m[0]};
        BigInteger[] automorph = automorph(form);
        for (int i = 0; i < 4; i++) {
            due("number " + i, number(i), matrix[i]);
            due("number " + (8 + i), number(8 + i), automorph[i]);
        }
        for (int what = 0; what < 3; what++) {
            due("form(" + what + ")", house.form(what), (int) form[what]);
        }
    }

    private BigInteger[] automorph(long[] f) {
        BigInteger t = unit[0];
        BigInteger u = unit[1];
        BigInteger bu = u.multiply(big(f[1]));
        return new BigInteger[] {t.subtract(bu).shiftRight(1), u.multiply(big(-f[2])), u.multiply(big(f[0])),
            t.add(bu).shiftRight(1)};
    }

    // Solutions

    private List<int[]> families(long[] form, int n) {
        List<int[]> all = new ArrayList<>();
        for (int g = 1; g * g <= Math.abs(n); g++) {
            if (n % (g * g) == 0) {
                int m = n / (g * g);
                for (int b : rootsOf(m)) {
                    if (classOf(new long[] {m, b, ((long) b * b - d) / (4L * m)}) == classOf(form)) {
                        all.add(new int[] {g, b});
                    }
                }
            }
        }
        return all;
    }

    private List<Integer> rootsOf(int m) {
        List<Integer> all = new ArrayList<>();
        for (int b = 0; b < 2 * Math.abs(m) && (d > 0 || m > 0); b++) {
            long rest = (long) b * b - d;
            if (rest % (4L * m) == 0 && common(common(m, b), rest / (4L * m)) == 1) {
                all.add(b);
            }
        }
        return all;
    }

    private void checkSolutions(long[] form, int n) {
        List<int[]> families = families(form, n);
        due("solve(" + n + ")", house.solve(n), families.size());
        due("count(12)", house.count(12), families.size());
        due("count(13)", house.count(13), n);
        Map<String, long[]> told = search(form, n);
        for (int i = 0; i < families.size() && i < 8; i++) {
            int[] family = families.get(i);
            due("divisor(" + i + ")", house.divisor(i), family[0]);
            due("root(" + i + ")", house.root(i), family[1]);
            BigInteger x = number(12 + 2 * i);
            BigInteger y = number(13 + 2 * i);
            if (told != null) {
                long[] due = told.get(family[0] + " " + family[1]);
                due("family " + i + " of " + n, x + " " + y, due == null ? "none" : due[0] + " " + due[1]);
            }
            checkTold(form, n, x, y);
        }
        if (told != null) {
            due("families of " + n + " that a search finds", told.size(), families.size());
        }
    }

    /** The solutions that tell families, by divisor and root, if the least |y| of each is small. */
    private Map<String, long[]> search(long[] f, int n) {
        BigInteger top = big(f[0]).multiply(big(n)).abs();
        top = top.multiply(d < 0 ? big(4) : unit[0].add(big(3))).divide(big(Math.abs(d))).sqrt().add(big(2));
        if (top.bitLength() > 12) {
            return null;
        }
        Map<String, long[]> told = new TreeMap<>();
        for (long y = -top.longValue(); y <= top.longValue(); y++) {
            long square = d * y * y + 4 * f[0] * n;
            if (square < 0) {
                continue;
            }
            long r = big(square).sqrt().longValue();
            for (long w = -r; r * r == square && w <= r; w += Math.max(1, 2 * r)) {
                if ((w - f[1] * y) % (2 * f[0]) == 0) {
                    long[] found = {(w - f[1] * y) / (2 * f[0]), y};
                    String family = familyOf(f, n, found[0], y);
                    if (!told.containsKey(family) || tellsBefore(found, told.get(family))) {
                        told.put(family, found);
                    }
                }
            }
        }
        return told;
    }

    private static boolean tellsBefore(long[] v, long[] w) {
        long[] ofV = tellOrder(v);
        long[] ofW = tellOrder(w);
        for (int i = 0; i < ofV.length; i++) {
            if (ofV[i] != ofW[i]) {
                return ofV[i] < ofW[i];
            }
        }
        return false;
    }

    private static long[] tellOrder(long[] v) {
        boolean up = v[1] > 0 || (v[1] == 0 && v[0] > 0);
        return new long[] {Math.abs(v[1]), Math.abs(v[0]), up ? 0 : 1, v[0] > 0 ? 0 : 1};
    }

    private String familyOf(long[] f, int n, long x, long y) {
        long g = common(x, y);
        BigInteger bigX = big(x / g);
        BigInteger bigY = big(y / g);
        // x s - y q = 1
        BigInteger s = bigY.signum() == 0 ? bigX : bigY.abs().equals(BigInteger.ONE) ? BigInteger.ZERO
            : bigX.modInverse(bigY.abs());
        BigInteger q = bigY.signum() == 0 ? BigInteger.ZERO : bigX.multiply(s).subtract(BigInteger.ONE).divide(bigY);
        BigInteger b = big(2 * f[0]).multiply(bigX).multiply(q)
            .add(big(f[1]).multiply(bigX.multiply(s).add(q.multiply(bigY))))
            .add(big(2 * f[2]).multiply(bigY).multiply(s));
        return g + " " + b.mod(big(2 * Math.abs(n / (g * g))));
    }

    private void checkTold(long[] f, int n, BigInteger x, BigInteger y) {
        BigInteger value = big(f[0]).multiply(x).multiply(x).add(big(f[1]).multiply(x).multiply(y))
            .add(big(f[2]).multiply(y).multiply(y));
        due("what the form comes to at " + x + " " + y, value, big(n));
        BigInteger[] m = automorph(f);
        BigInteger there = m[2].multiply(x).add(m[3].multiply(y)).abs();
        BigInteger back = m[0].multiply(y).subtract(m[2].multiply(x)).abs();
        due("whether |y| is least at " + x + " " + y, y.abs().compareTo(there.min(back)) <= 0, true);
        due("whether the sign is due at " + x + " " + y, y.signum() > 0 || (y.signum() == 0 && x.signum() > 0), true);
    }

    private void checkTellers(int n) {
        Set<Integer> all = new HashSet<>();
        for (int b : rootsOf(n)) {
            all.add(classOf(new long[] {n, b, ((long) b * b - d) / (4L * n)}));
        }
        due("tellers(" + n + ")", house.tellers(n), all.size());
        due("count(14)", house.count(14), all.size());
        int i = 0;
        for (int k = 0; k < names.size(); k++) {
            if (all.contains(k)) {
                due("teller(" + i + ")", house.teller(i), k);
                i++;
            }
        }
    }
}
