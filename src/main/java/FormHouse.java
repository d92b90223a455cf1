/** A house of forms in two unknowns: the classes of a discriminant, their group, units and solutions. */
public final class FormHouse {
    private static final int FIRST_D = -4;
    private static final int MOST_D = 1048576;
    private static final int MOST_COEFFICIENT = 1073741824;
    private static final int MOST_SOLVED = 1000000;
    private static final int MOST_SYMBOL = 4194304;
    private static final int MOST_WORDS_READ = 512;

    // D = 1007161 has 4706 reduced forms, the most of all; a class above 0 has at least two of them.
    private static final int MOST_REDUCED = 4800;
    private static final int MOST_CLASSES = 2400;
    private static final int MOST_GENERATORS = 16;
    private static final int MOST_PRIMES = 8;
    // A number up to 1000000 has at most some 1600 square roots of D.
    private static final int MOST_ROOTS = 2048;
    private static final int MOST_FAMILIES = 256;
    // The greatest unit has 7825 bits, and two such numbers are multiplied.
    private static final int MOST_WORDS = 544;

    private static final int FIRST_UNIT = 4;
    private static final int FIRST_AUTOMORPH = 8;
    private static final int FIRST_TOLD = 12;

    private static final int KEY_SHIFT = 12;
    private static final int KEY_HALF = 2048;
    // Above the root of each number that is taken apart.
    private static final int MOST_TRIED = 2048;
    private static final int MANY_STEPS = 1000;
    private static final long LOW = 0xFFFFFFFFL;

    private final Classes classes = new Classes();
    private final Group group = new Group();
    private final Roots roots = new Roots();
    private final Units units = new Units();
    private final Hand hand = new Hand();
    private final Families families = new Families();
    private final int[] primes = new int[MOST_PRIMES];
    private final int[] tellerList = new int[MOST_CLASSES];
    private final boolean[] isTeller = new boolean[MOST_CLASSES];
    private final Big lent = new Big();
    private int primeCount;
    private int tellerCount;

    public FormHouse() {
        open(FIRST_D);
    }

    public int take(int d) throws IllegalArgumentException {
        if (!isDiscriminant(d)) {
            throw new IllegalArgumentException();
        }
        open(d);
        return classes.many;
    }

    public int count(int what) {
        switch (what) {
            case 0: return classes.d;
            case 1: return classes.many;
            case 2: return group.prepare(classes).many;
            case 3: return classes.principal;
            case 4: return group.prepare(classes).greatest;
            case 5: return classes.reduced;
            case 6: return primeCount;
            case 7: return unitsBelow(classes.d);
            case 8: return classes.hasMinusOne() ? 1 : 0;
            case 9: return hand.kind;
            case 10: return hand.steps;
            case 11: return hand.early;
            case 12: return families.many;
            case 13: return families.solved;
            case 14: return tellerCount;
            default: return -1;
        }
    }

    public int name(int k, int what) throws IndexOutOfBoundsException {
        if (!classes.has(k) || what < 0 || what > 2) {
            throw new IndexOutOfBoundsException();
        }
        return what == 0 ? classes.nameA[k] : what == 1 ? classes.nameB[k] : classes.nameC[k];
    }

    public int product(int j, int k) throws IndexOutOfBoundsException {
        if (!classes.has(j) || !classes.has(k)) {
            throw new IndexOutOfBoundsException();
        }
        return classes.compose(j, k);
    }

    public int inverse(int k) throws IndexOutOfBoundsException {
        if (!classes.has(k)) {
            throw new IndexOutOfBoundsException();
        }
        return classes.opposite(k);
    }

    public int power(int k, int n) throws IndexOutOfBoundsException {
        if (!classes.has(k)) {
            throw new IndexOutOfBoundsException();
        }
        return classes.raise(k, n);
    }

    public int order(int k) throws IndexOutOfBoundsException {
        if (!classes.has(k)) {
            throw new IndexOutOfBoundsException();
        }
        return group.prepare(classes).orders[k];
    }

    public int generator(int i) throws IndexOutOfBoundsException {
        if (!group.prepare(classes).has(i)) {
            throw new IndexOutOfBoundsException();
        }
        return group.generators[i];
    }

    public int exponent(int k, int i) throws IndexOutOfBoundsException {
        if (!classes.has(k) || !group.prepare(classes).has(i)) {
            throw new IndexOutOfBoundsException();
        }
        return group.exponentOf(k, i);
    }

    public int prime(int i) throws IndexOutOfBoundsException {
        if (i < 0 || i >= primeCount) {
            throw new IndexOutOfBoundsException();
        }
        return primes[i];
    }

    public int character(int k, int i) throws IndexOutOfBoundsException {
        if (!classes.has(k) || i < 0 || i >= primeCount) {
            throw new IndexOutOfBoundsException();
        }
        int p = primes[i];
        // A prime in D that goes into a goes into b, too, so not into c.
        return jacobi(remainder(classes.nameA[k], p) != 0 ? classes.nameA[k] : classes.nameC[k], p);
    }

    public int kronecker(int n) throws IllegalArgumentException {
        if (n > MOST_SYMBOL || n < -MOST_SYMBOL) {
            throw new IllegalArgumentException();
        }
        return symbol(classes.d, n);
    }

    public int ask(int a, int b, int c) throws IllegalArgumentException {
        if (!canBeTaken(a, b, c)) {
            throw new IllegalArgumentException();
        }
        families.forget();
        hand.put(classes, a, b, c);
        return hand.kind;
    }

    public int form(int what) throws IndexOutOfBoundsException {
        if (what < 0 || what > 2) {
            throw new IndexOutOfBoundsException();
        }
        return (int) (what == 0 ? hand.a : what == 1 ? hand.b : hand.c);
    }

    public int solve(int n) throws IllegalArgumentException, IllegalStateException {
        if (!canBeSolved(n)) {
            throw new IllegalArgumentException();
        }
        if (!families.search(n, classes, roots, hand.kind)) {
            throw new IllegalStateException();
        }
        return families.many;
    }

    public int divisor(int i) throws IndexOutOfBoundsException {
        if (!families.has(i)) {
            throw new IndexOutOfBoundsException();
        }
        return families.divisors[i];
    }

    public int root(int i) throws IndexOutOfBoundsException {
        if (!families.has(i)) {
            throw new IndexOutOfBoundsException();
        }
        return families.rootsTold[i];
    }

    public int tellers(int n) throws IllegalArgumentException {
        if (!canBeSolved(n)) {
            throw new IllegalArgumentException();
        }
        markTellers(n);
        tellerCount = 0;
        for (int k = 0; k < classes.many; k++) {
            if (isTeller[k]) {
                tellerList[tellerCount] = k;
                tellerCount++;
            }
        }
        return tellerCount;
    }

    public int teller(int i) throws IndexOutOfBoundsException {
        if (i < 0 || i >= tellerCount) {
            throw new IndexOutOfBoundsException();
        }
        return tellerList[i];
    }

    public int sign(int i) throws IndexOutOfBoundsException {
        if (!hasNumber(i)) {
            throw new IndexOutOfBoundsException();
        }
        return number(i).side;
    }

    public int bits(int i) throws IndexOutOfBoundsException {
        if (!hasNumber(i)) {
            throw new IndexOutOfBoundsException();
        }
        return number(i).bitCount();
    }

    public int word(int i, int k) throws IndexOutOfBoundsException {
        if (!hasNumber(i) || k < 0 || k >= MOST_WORDS_READ) {
            throw new IndexOutOfBoundsException();
        }
        return number(i).wordAt(k);
    }

    public int residue(int i, int m) throws IndexOutOfBoundsException, IllegalArgumentException {
        if (!hasNumber(i)) {
            throw new IndexOutOfBoundsException();
        }
        if (m < 1) {
            throw new IllegalArgumentException();
        }
        return number(i).remainderBy(m);
    }

    private void open(int d) {
        classes.open(d);
        group.known = false;
        units.known = false;
        families.forget();
        tellerCount = 0;
        findPrimes(d);
        int e = d & 1;
        hand.put(classes, 1, e, (e - d) / 4);
    }

    private void findPrimes(int d) {
        int left = Math.abs(d) >> Integer.numberOfTrailingZeros(d);
        primeCount = 0;
        for (int p = 3; p * p <= left && p < MOST_TRIED; p += 2) {
            if (left % p == 0) {
                addPrime(p);
                left = without(left, p);
            }
        }
        if (left > 1) {
            addPrime(left);
        }
    }

    private void addPrime(int p) {
        if (primeCount < MOST_PRIMES) {
            primes[primeCount] = p;
            primeCount++;
        }
    }

    private void markTellers(int n) {
        for (int k = 0; k < classes.many; k++) {
            isTeller[k] = false;
        }
        if (classes.d < 0 && n < 0) {
            return;
        }
        roots.find(classes.d, Math.abs(n));
        for (int i = 0; i < roots.many; i++) {
            int k = classes.primitiveClass(n, roots.list[i]);
            if (classes.has(k)) {
                isTeller[k] = true;
            }
        }
    }

    private boolean hasNumber(int i) {
        return i >= 0 && i < FIRST_TOLD + 2 * families.many;
    }

    private Big number(int i) {
        if (i < FIRST_UNIT) {
            return hand.entry(classes, i);
        }
        if (i < FIRST_AUTOMORPH) {
            return units.prepare(classes).get(i - FIRST_UNIT);
        }
        if (i < FIRST_TOLD) {
            hand.automorph(i - FIRST_AUTOMORPH, units.prepare(classes), lent);
            return lent;
        }
        Point point = families.tell((i - FIRST_TOLD) / 2, classes, hand, units.prepare(classes));
        return (i & 1) == 0 ? point.x : point.y;
    }

    private boolean canBeTaken(int a, int b, int c) {
        if (!isCoefficient(a) || !isCoefficient(b) || !isCoefficient(c)) {
            return false;
        }
        if ((long) b * b - 4L * a * c != classes.d || common(common(a, b), c) != 1) {
            return false;
        }
        return classes.d > 0 || a > 0;
    }

    private static boolean isCoefficient(int x) {
        return x >= -MOST_COEFFICIENT && x <= MOST_COEFFICIENT;
    }

    private static boolean canBeSolved(int n) {
        return n != 0 && n >= -MOST_SOLVED && n <= MOST_SOLVED;
    }

    private static boolean isDiscriminant(int d) {
        if (d < -MOST_D || d > MOST_D || (d & 3) > 1) {
            return false;
        }
        int r = floorRoot(d);
        return r * r != d;
    }

    private static int unitsBelow(int d) {
        if (d > 0) {
            return -1;
        }
        return d == -3 ? 6 : d == -4 ? 4 : 2;
    }

    private static int without(int n, int p) {
        int left = n;
        for (int i = 0; i < 32 && p > 1 && left % p == 0; i++) {
            left /= p;
        }
        return left;
    }

    /** The greatest number whose square isn't above n; 0 for n below 0. */
    private static int floorRoot(int n) {
        int r = 0;
        for (int bit = 1 << 14; bit > 0; bit >>= 1) {
            int more = r + bit;
            if (more * more <= n) {
                r = more;
            }
        }
        return r;
    }

    private static long quotient(long n, long m) {
        return m == 0 ? 0 : n / m;
    }

    private static long remainder(long n, long m) {
        return m <= 0 ? 0 : Math.floorMod(n, m);
    }

    private static long common(long x, long y) {
        long a = Math.abs(x);
        long b = Math.abs(y);
        for (int i = 0; i < MANY_STEPS && b != 0; i++) {
            long rest = a % b;
            a = b;
            b = rest;
        }
        return a;
    }

    /** A number that times x is like common(x, y) modulo y. */
    private static long factor(long x, long y) {
        long a = x;
        long b = y;
        long ofA = 1;
        long ofB = 0;
        for (int i = 0; i < MANY_STEPS && b != 0; i++) {
            long times = a / b;
            long rest = a - times * b;
            long ofRest = ofA - times * ofB;
            a = b;
            b = rest;
            ofA = ofB;
            ofB = ofRest;
        }
        return a < 0 ? -ofA : ofA;
    }

    private static int symbol(int d, int n) {
        if (n == 0) {
            return 0;
        }
        int size = Math.abs(n);
        int twos = Integer.numberOfTrailingZeros(size);
        if (twos > 0 && (d & 1) == 0) {
            return 0;
        }
        int answer = d < 0 && n < 0 ? -1 : 1;
        if ((twos & 1) == 1 && (d & 7) != 1 && (d & 7) != 7) {
            answer = -answer;
        }
        return answer * jacobi(d, size >> twos);
    }

    /** Jacobi's symbol of x and an odd n above 0. */
    private static int jacobi(long x, long n) {
        long below = n;
        long above = remainder(x, n);
        int answer = 1;
        for (int i = 0; i < MANY_STEPS && above != 0; i++) {
            int twos = Long.numberOfTrailingZeros(above);
            above >>= twos;
            if ((twos & 1) == 1 && ((below & 7) == 3 || (below & 7) == 5)) {
                answer = -answer;
            }
            if ((above & 3) == 3 && (below & 3) == 3) {
                answer = -answer;
            }
            long rest = remainder(below, above);
            below = above;
            above = rest;
        }
        return below == 1 ? answer : 0;
    }

    /** A square root of n modulo the odd prime p by Cipolla's way, -1 if there is none. */
    private static long rootModulo(long n, long p) {
        if (jacobi(n, p) < 0) {
            return -1;
        }
        for (long start = 0; start < p; start++) {
            long w = remainder(start * start - n, p);
            if (w == 0) {
                return start;
            }
            if (jacobi(w, p) < 0) {
                return cipolla(start, w, p);
            }
        }
        return -1;
    }

    /** What (start + root of w) to the power (p + 1) / 2 is, w having no root modulo p. */
    private static long cipolla(long start, long w, long p) {
        long x = 1;
        long y = 0;
        long baseX = start;
        long baseY = 1;
        for (long left = (p + 1) / 2; left > 0; left >>= 1) {
            if ((left & 1) == 1) {
                long newX = remainder(x * baseX + remainder(y * baseY, p) * w, p);
                y = remainder(x * baseY + y * baseX, p);
                x = newX;
            }
            long square = remainder(baseX * baseX + remainder(baseY * baseY, p) * w, p);
            baseY = remainder(2 * baseX * baseY, p);
            baseX = square;
        }
        return x;
    }

    /** A whole number of any size that the house needs. */
    private static final class Big {
        final int[] words = new int[MOST_WORDS];
        int side;
        int length;

        void put(long value) {
            long size = Math.abs(value);
            side = Long.signum(value);
            words[0] = (int) size;
            words[1] = (int) (size >>> 32);
            length = 2;
            trim();
        }

        void copy(Big other) {
            System.arraycopy(other.words, 0, words, 0, other.length);
            length = other.length;
            side = other.side;
        }

        void negate() {
            side = -side;
        }

        void makePositive() {
            side = side * side;
        }

        /** Becomes other times m, |m| being below 2 to the 32nd. */
        void scale(Big other, long m) {
            long factor = Math.abs(m);
            long carry = 0;
            int end = other.length;
            for (int i = 0; i < end; i++) {
                long sum = (other.words[i] & LOW) * factor + carry;
                words[i] = (int) sum;
                carry = sum >>> 32;
            }
            length = end;
            if (carry != 0 && end < MOST_WORDS) {
                words[end] = (int) carry;
                length = end + 1;
            }
            side = other.side * Long.signum(m);
            trim();
        }

        /** Becomes x times y, which are other objects. */
        void multiply(Big x, Big y) {
            length = Math.min(x.length + y.length, MOST_WORDS);
            side = x.side * y.side;
            for (int i = 0; i < length; i++) {
                words[i] = 0;
            }
            for (int i = 0; i < x.length; i++) {
                addRow(y, x.words[i] & LOW, i);
            }
            trim();
        }

        private void addRow(Big y, long factor, int at) {
            long carry = 0;
            int end = Math.min(y.length, MOST_WORDS - at);
            for (int j = 0; j < end; j++) {
                long sum = (y.words[j] & LOW) * factor + (words[at + j] & LOW) + carry;
                words[at + j] = (int) sum;
                carry = sum >>> 32;
            }
            if (at + end < MOST_WORDS) {
                words[at + end] = (int) carry;
            }
        }

        /** Becomes this and other; this less other if way is -1. */
        void add(Big other, int way) {
            int otherSide = other.side * way;
            if (otherSide == 0) {
                return;
            }
            if (side == 0 || side == otherSide) {
                side = otherSide;
                addSize(other);
            } else if (compareSize(other) >= 0) {
                takeAway(this, other);
            } else {
                side = otherSide;
                takeAway(other, this);
            }
            trim();
        }

        private void addSize(Big other) {
            int end = length > other.length ? length : other.length;
            long carry = 0;
            for (int i = 0; i < end; i++) {
                long mine = i < length ? words[i] & LOW : 0;
                long others = i < other.length ? other.words[i] & LOW : 0;
                long sum = mine + others + carry;
                words[i] = (int) sum;
                carry = sum >>> 32;
            }
            length = end;
            if (carry != 0 && end < MOST_WORDS) {
                words[end] = (int) carry;
                length = end + 1;
            }
        }

        /** Gets the size of greater less that of smaller; either may be this. */
        private void takeAway(Big greater, Big smaller) {
            int end = greater.length;
            long carry = 0;
            for (int i = 0; i < end; i++) {
                long others = i < smaller.length ? smaller.words[i] & LOW : 0;
                long rest = (greater.words[i] & LOW) - others + carry;
                words[i] = (int) rest;
                carry = rest >> 32;
            }
            length = end;
        }

        void halve() {
            for (int i = 0; i < length; i++) {
                long pair = ((long) wordAt(i + 1) << 32) | (words[i] & LOW);
                words[i] = (int) (pair >>> 1);
            }
            trim();
        }

        int compareSize(Big other) {
            if (length != other.length) {
                return length < other.length ? -1 : 1;
            }
            for (int i = length - 1; i >= 0; i--) {
                if (words[i] != other.words[i]) {
                    return (words[i] & LOW) < (other.words[i] & LOW) ? -1 : 1;
                }
            }
            return 0;
        }

        int wordAt(int k) {
            return k >= 0 && k < length ? words[k] : 0;
        }

        int bitCount() {
            return length == 0 ? 0 : 32 * length - Integer.numberOfLeadingZeros(wordAt(length - 1));
        }

        int remainderBy(int m) {
            long rest = 0;
            for (int i = length - 1; i >= 0; i--) {
                rest = remainder((rest << 32) | (words[i] & LOW), m);
            }
            return (int) remainder(side * rest, m);
        }

        private void trim() {
            int end = length;
            while (end > 0 && words[end - 1] == 0) {
                end--;
            }
            length = end;
            if (end == 0) {
                side = 0;
            }
        }
    }

    /** The product of the matrices of steps. */
    private static final class Matrix {
        Big p = new Big();
        Big q = new Big();
        Big r = new Big();
        Big s = new Big();
        private Big spare = new Big();

        void clear() {
            p.put(1);
            q.put(0);
            r.put(0);
            s.put(1);
        }

        /** Is multiplied by (0, -1, 1, turn). */
        void step(long turn) {
            spare.scale(q, turn);
            spare.add(p, -1);
            Big free = p;
            p = q;
            q = spare;
            free.scale(s, turn);
            free.add(r, -1);
            spare = r;
            r = s;
            s = free;
        }
    }

    /** A solution. */
    private static final class Point {
        final Big x = new Big();
        final Big y = new Big();

        /** Whether it, and not the other of its family, would tell the family. */
        boolean isBefore(Point other) {
            int byY = y.compareSize(other.y);
            int byX = x.compareSize(other.x);
            if (byY != 0 || byX != 0) {
                return byY < 0 || (byY == 0 && byX < 0);
            }
            return x.side * y.side > other.x.side * other.y.side;
        }

        void makePositive() {
            if (y.side < 0 || (y.side == 0 && x.side < 0)) {
                x.negate();
                y.negate();
            }
        }

        void scale(int g) {
            x.scale(x, g);
            y.scale(y, g);
        }

        /** Becomes t times the point here, less the one before it: the next of the family. */
        void follow(Point here, Point before, Big t) {
            x.multiply(here.x, t);
            x.add(before.x, -1);
            y.multiply(here.y, t);
            y.add(before.y, -1);
        }
    }

    /** A form that goes from next to next. */
    private static final class Walk {
        long a;
        long b;
        long c;
        int d;
        int floor;

        void open(int discriminant) {
            d = discriminant;
            floor = floorRoot(d);
        }

        void start(long first, long second, long third) {
            a = first;
            b = second;
            c = third;
        }

        boolean isReduced() {
            long size = Math.abs(a);
            if (d > 0) {
                return b > 0 && b <= floor && 2 * size + b > floor && 2 * size - b <= floor;
            }
            if (Math.abs(b) > size || size > c) {
                return false;
            }
            return b >= 0 || (b != -size && size != c);
        }

        /** Goes to the next form; answers the last number of the step's matrix. */
        long step() {
            if (c == 0) {
                return 0;
            }
            long size = Math.abs(c);
            long top = d < 0 || size > floor ? size : floor;
            long e = top - Math.floorMod(top + b, 2 * size);
            long turn = (b + e) / (2 * c);
            long newC = (e * e - d) / (4 * c);
            a = c;
            b = e;
            c = newC;
            return turn;
        }

        /** For reduced forms alone; it rises with a, then with b. */
        int key() {
            return ((int) a << KEY_SHIFT) + (int) b;
        }
    }

    /** All classes of a discriminant. */
    private static final class Classes {
        final Walk walk = new Walk();
        private final int[] keys = new int[MOST_REDUCED];
        private final int[] owners = new int[MOST_REDUCED];
        private final int[] nameKeys = new int[MOST_CLASSES];
        final int[] nameA = new int[MOST_CLASSES];
        final int[] nameB = new int[MOST_CLASSES];
        final int[] nameC = new int[MOST_CLASSES];
        int d;
        int reduced;
        int many;
        int principal;

        void open(int discriminant) {
            d = discriminant;
            walk.open(d);
            reduced = 0;
            many = 0;
            if (d < 0) {
                gatherBelow();
            } else {
                gatherAbove();
            }
            nameAll();
            int e = d & 1;
            principal = classOf(1, e, (e - d) / 4);
        }

        boolean has(int k) {
            return k >= 0 && k < many && k < MOST_CLASSES;
        }

        int nameKey(int k) {
            return has(k) ? nameKeys[k] : 0;
        }

        long third(long a, long b) {
            return quotient(b * b - d, 4 * a);
        }

        private void gatherBelow() {
            for (int a = 1; a < MOST_TRIED && 3 * a * a <= -d; a++) {
                int first = 1 - a + ((1 - a - d) & 1);
                for (int b = first; b <= a; b += 2) {
                    gather(a, b);
                }
            }
        }

        private void gatherAbove() {
            int floor = walk.floor;
            for (int a = -floor; a <= floor; a++) {
                int twice = 2 * Math.abs(a);
                int first = twice <= floor ? floor + 1 - twice : twice - floor;
                first += (first - d) & 1;
                for (int b = first; b <= floor; b += 2) {
                    gather(a, b);
                }
            }
        }

        private void gather(int a, int b) {
            int rest = b * b - d;
            if (a == 0 || rest % (4 * a) != 0 || reduced >= MOST_REDUCED) {
                return;
            }
            walk.start(a, b, rest / (4 * a));
            if (walk.isReduced() && common(common(a, b), walk.c) == 1) {
                keys[reduced] = walk.key();
                owners[reduced] = -1;
                reduced++;
            }
        }

        /** The forms come in their order, so the first of a class that is met is its name. */
        private void nameAll() {
            for (int i = 0; i < reduced; i++) {
                if (owners[i] < 0 && many < MOST_CLASSES) {
                    int a = (keys[i] + KEY_HALF) >> KEY_SHIFT;
                    int b = keys[i] - (a << KEY_SHIFT);
                    nameKeys[many] = keys[i];
                    nameA[many] = a;
                    nameB[many] = b;
                    nameC[many] = (int) third(a, b);
                    own(i, many);
                    many++;
                }
            }
        }

        private void own(int place, int k) {
            owners[place] = k;
            if (d < 0) {
                return;
            }
            walk.start(nameA[k], nameB[k], nameC[k]);
            for (int i = 0; i < reduced; i++) {
                walk.step();
                int at = find(walk.key());
                if (at < 0 || at == place) {
                    return;
                }
                owners[at] = k;
            }
        }

        private int find(int key) {
            int low = 0;
            int high = reduced - 1;
            for (int i = 0; i < 32 && low <= high; i++) {
                int middle = (low + high) >>> 1;
                if (keys[middle] == key) {
                    return middle;
                }
                if (keys[middle] < key) {
                    low = middle + 1;
                } else {
                    high = middle - 1;
                }
            }
            return -1;
        }

        /** The class of the reduced form at which the walk stands. */
        int classHere() {
            int at = find(walk.key());
            return at < 0 ? 0 : owners[at];
        }

        int classOf(long a, long b, long c) {
            walk.start(a, b, c);
            for (int i = 0; i < MANY_STEPS && !walk.isReduced(); i++) {
                walk.step();
            }
            return classHere();
        }

        /** The class of (m, b, ..), -1 if its numbers have more than 1 in common. */
        int primitiveClass(long m, long b) {
            long c = third(m, b);
            return common(common(m, b), c) == 1 ? classOf(m, b, c) : -1;
        }

        boolean hasMinusOne() {
            int e = d & 1;
            return d > 0 && classOf(-1, e, (d - e) / 4) == principal;
        }

        int compose(int j, int k) {
            if (!has(j) || !has(k)) {
                return 0;
            }
            long a1 = nameA[j];
            long b1 = nameB[j];
            long a2 = nameA[k];
            long b2 = nameB[k];
            long half = (b1 + b2) / 2;
            long inBoth = common(a1, a2);
            long u = factor(a1, a2);
            long v = quotient(inBoth - u * a1, a2);
            long g = common(inBoth, half);
            long x = factor(inBoth, half);
            long w = quotient(g - x * inBoth, half);
            long a = quotient(a1 * a2, g * g);
            long sum = x * u * a1 * b2 + x * v * a2 * b1 + w * ((b1 * b2 + d) / 2);
            long b = remainder(quotient(sum, g), 2 * Math.abs(a));
            return classOf(a, b, third(a, b));
        }

        int opposite(int k) {
            return has(k) ? classOf(nameA[k], -nameB[k], nameC[k]) : 0;
        }

        int raise(int k, long n) {
            int base = n < 0 ? opposite(k) : k;
            int answer = principal;
            for (long left = Math.abs(n); left > 0; left >>= 1) {
                if ((left & 1) == 1) {
                    answer = compose(answer, base);
                }
                base = compose(base, base);
            }
            return answer;
        }
    }

    /** The orders and generators of the classes, found when they are first asked for. */
    private static final class Group {
        final int[] orders = new int[MOST_CLASSES];
        final int[] generators = new int[MOST_GENERATORS];
        /** First the powers of a class, then the products of powers of the generators. */
        private final int[] list = new int[MOST_CLASSES];
        /** Where a class is in the list of products, -1 if it is none. */
        private final int[] places = new int[MOST_CLASSES];
        boolean known;
        int many;
        int greatest;
        private int size;

        boolean has(int i) {
            return i >= 0 && i < many && i < MOST_GENERATORS;
        }

        Group prepare(Classes classes) {
            if (known) {
                return this;
            }
            findOrders(classes);
            clear(classes);
            for (int round = 0; round < MOST_GENERATORS; round++) {
                int best = nextGenerator(classes);
                if (best < 0) {
                    break;
                }
                generators[many] = best;
                many++;
                extend(classes, best);
            }
            known = true;
            return this;
        }

        private void clear(Classes classes) {
            for (int k = 0; k < classes.many; k++) {
                places[k] = -1;
            }
            many = 0;
            size = 1;
            list[0] = classes.principal;
            places[classes.principal] = 0;
        }

        private void findOrders(Classes classes) {
            for (int k = 0; k < classes.many; k++) {
                orders[k] = 0;
            }
            greatest = 1;
            for (int k = 0; k < classes.many; k++) {
                if (orders[k] == 0) {
                    greatest = Math.max(greatest, orderPowers(classes, k));
                }
            }
        }

        /** Sets the orders of all powers of k, so that each cyclic group is gone through but once. */
        private int orderPowers(Classes classes, int k) {
            int n = 0;
            int at = classes.principal;
            do {
                list[n] = at;
                n++;
                at = classes.compose(at, k);
            } while (at != classes.principal && n < classes.many);
            for (int i = 0; i < n; i++) {
                orders[list[i]] = (int) quotient(n, common(n, i));
            }
            return n;
        }

        private int nextGenerator(Classes classes) {
            int left = (int) quotient(classes.many, size);
            int best = -1;
            int bestOrder = 1;
            for (int k = 0; k < classes.many; k++) {
                // Only an order that goes into what is left can be that of a class apart.
                if (orders[k] > bestOrder && left % orders[k] == 0 && isApart(classes, k)) {
                    best = k;
                    bestOrder = orders[k];
                }
            }
            return best;
        }

        /** Whether no power of k but the principal class is in the list. */
        private boolean isApart(Classes classes, int k) {
            int at = k;
            for (int n = 1; n < orders[k]; n++) {
                if (places[at] >= 0) {
                    return false;
                }
                at = classes.compose(at, k);
            }
            return true;
        }

        private void extend(Classes classes, int g) {
            int end = Math.min(size * orders[g], MOST_CLASSES);
            for (int i = size; i < end; i++) {
                list[i] = classes.compose(list[i - size], g);
                places[list[i]] = i;
            }
            size = end;
        }

        int exponentOf(int k, int i) {
            int left = places[k];
            for (int j = 0; j < i; j++) {
                left = (int) quotient(left, orders[generators[j]]);
            }
            return (int) remainder(left, orders[generators[i]]);
        }
    }

    /** The numbers b from 0 to 2 m - 1 with b b like D modulo 4 m. */
    private static final class Roots {
        int[] list = new int[MOST_ROOTS];
        private int[] lifted = new int[MOST_ROOTS];
        int many;
        private int liftedMany;
        private int d;
        private int done;
        private long rootOfD;

        void find(int discriminant, int m) {
            d = discriminant;
            done = 1;
            list[0] = d & 1;
            many = 1;
            int left = m;
            for (int p = 2; left > 1 && many > 0 && p < MOST_TRIED; p++) {
                // What no p up to its root goes into is a prime.
                int prime = p * p > left ? left : p;
                if (left % prime == 0) {
                    rootOfD = prime == 2 ? 0 : rootModulo(remainder(d, prime), prime);
                    left = liftAll(left, prime);
                }
            }
        }

        /** Lifts by p as often as it goes into n; answers what is left of n. */
        private int liftAll(int n, int p) {
            int left = n;
            for (int i = 0; i < 32 && p > 1 && left % p == 0; i++) {
                liftedMany = 0;
                if (p == 2) {
                    liftByTwo();
                } else if (i == 0) {
                    liftFirst(p);
                } else {
                    liftAgain(p);
                }
                int[] old = list;
                list = lifted;
                lifted = old;
                many = liftedMany;
                done *= p;
                left /= p;
            }
            return left;
        }

        private long thirdOf(long b) {
            return quotient(b * b - d, 4L * done);
        }

        private void addLifted(int b, long t) {
            if (liftedMany < MOST_ROOTS) {
                lifted[liftedMany] = (int) (b + 2L * done * t);
                liftedMany++;
            }
        }

        /** From the roots for done to those for done times p: b + 2 done t with done t t + b t + c like 0. */
        private void liftByTwo() {
            for (int i = 0; i < many; i++) {
                long c = thirdOf(list[i]);
                if ((c & 1) == 0) {
                    addLifted(list[i], 0);
                }
                if (((done + list[i] + c) & 1) == 0) {
                    addLifted(list[i], 1);
                }
            }
        }

        private void liftAgain(int p) {
            for (int i = 0; i < many; i++) {
                int b = list[i];
                long c = thirdOf(b);
                if (remainder(b, p) != 0) {
                    addLifted(b, remainder(-remainder(c, p) * factor(b, p), p));
                } else if (remainder(c, p) == 0) {
                    for (int t = 0; t < p; t++) {
                        addLifted(b, t);
                    }
                }
            }
        }

        private void liftFirst(int p) {
            long s = rootOfD;
            if (s < 0) {
                return;
            }
            long half = remainder(factor(2L * done, p), p);
            for (int i = 0; i < many; i++) {
                addLifted(list[i], remainder((s - list[i]) * half, p));
                if (s != 0) {
                    addLifted(list[i], remainder((-s - list[i]) * half, p));
                }
            }
        }
    }

    /** The units of D, found when they are first asked for. */
    private static final class Units {
        final Big t = new Big();
        final Big u = new Big();
        private final Big minusT = new Big();
        private final Big minusU = new Big();
        private final Matrix matrix = new Matrix();
        boolean known;

        Big get(int i) {
            return i == 0 ? t : i == 1 ? u : i == 2 ? minusT : minusU;
        }

        Units prepare(Classes classes) {
            if (known) {
                return this;
            }
            minusT.put(0);
            minusU.put(0);
            if (classes.d < 0) {
                t.put(classes.d == -3 ? 1 : classes.d == -4 ? 0 : 2);
                u.put(classes.d < -4 ? 0 : 1);
            } else {
                goRound(classes);
            }
            known = true;
            return this;
        }

        /** The steps from (1, b, c) to (1, b, c) or (-1, b, -c) take it where it comes to 1 or -1. */
        private void goRound(Classes classes) {
            Walk walk = classes.walk;
            long b = walk.floor - ((walk.floor - classes.d) & 1);
            walk.start(1, b, classes.third(1, b));
            matrix.clear();
            for (int i = 0; i < MOST_REDUCED; i++) {
                matrix.step(walk.step());
                if (walk.a == -1) {
                    read(b, minusT, minusU);
                }
                if (walk.a == 1) {
                    read(b, t, u);
                    return;
                }
            }
        }

        private void read(long b, Big intoT, Big intoU) {
            intoT.scale(matrix.r, b);
            intoT.add(matrix.p, 1);
            intoT.add(matrix.p, 1);
            intoT.makePositive();
            intoU.copy(matrix.r);
            intoU.makePositive();
        }
    }

    /** The form at hand and its way. */
    private static final class Hand {
        private final Matrix matrix = new Matrix();
        private final Big lent = new Big();
        private final Big scaled = new Big();
        long a;
        long b;
        long c;
        int kind;
        int early;
        int steps;
        private boolean known;

        void put(Classes classes, long first, long second, long third) {
            a = first;
            b = second;
            c = third;
            known = false;
            Walk walk = classes.walk;
            walk.start(a, b, c);
            early = 0;
            while (early < MANY_STEPS && !walk.isReduced()) {
                walk.step();
                early++;
            }
            kind = classes.classHere();
            steps = early;
            int end = classes.nameKey(kind);
            for (int i = 0; i < MOST_REDUCED && walk.key() != end; i++) {
                walk.step();
                steps++;
            }
        }

        /** Sets the matrix that takes the form at hand to its first reduced form, and on to that of the key. */
        void goTo(Classes classes, int key, Matrix into) {
            Walk walk = classes.walk;
            walk.start(a, b, c);
            into.clear();
            for (int i = 0; i < early; i++) {
                into.step(walk.step());
            }
            for (int i = 0; i < MOST_REDUCED && walk.key() != key; i++) {
                into.step(walk.step());
            }
        }

        Big entry(Classes classes, int i) {
            if (!known) {
                goTo(classes, classes.nameKey(kind), matrix);
                matrix.q.negate();
                matrix.r.negate();
                known = true;
            }
            return i == 0 ? matrix.s : i == 1 ? matrix.q : i == 2 ? matrix.r : matrix.p;
        }

        void automorph(int i, Units units, Big into) {
            if (i == 1 || i == 2) {
                into.scale(units.u, i == 1 ? -c : a);
                return;
            }
            into.copy(units.t);
            lent.scale(units.u, i == 0 ? -b : b);
            into.add(lent, 1);
            into.halve();
        }

        /** Sets the solution to which the automorph takes back that at from. */
        void takeBack(Point from, Units units, Point into) {
            into.x.multiply(from.x, units.t);
            into.y.multiply(from.y, units.t);
            lent.multiply(from.x, units.u);
            scaled.scale(lent, b);
            into.x.add(scaled, 1);
            scaled.scale(lent, -2 * a);
            into.y.add(scaled, 1);
            lent.multiply(from.y, units.u);
            scaled.scale(lent, 2 * c);
            into.x.add(scaled, 1);
            scaled.scale(lent, -b);
            into.y.add(scaled, 1);
            into.x.halve();
            into.y.halve();
        }
    }

    /** The families that are told; their solutions are found when they are asked for. */
    private static final class Families {
        final int[] divisors = new int[MOST_FAMILIES];
        final int[] rootsTold = new int[MOST_FAMILIES];
        private final int[] newDivisors = new int[MOST_FAMILIES];
        private final int[] newRoots = new int[MOST_FAMILIES];
        private final Matrix matrix = new Matrix();
        private final Big lent = new Big();
        private Point here = new Point();
        private Point before = new Point();
        private Point after = new Point();
        int many;
        int solved;
        private int newMany;
        private int toldAt = -1;

        void forget() {
            many = 0;
            solved = 0;
            toldAt = -1;
        }

        boolean has(int i) {
            return i >= 0 && i < many && i < MOST_FAMILIES;
        }

        /** Tells all families for n, unless there are too many. */
        boolean search(int n, Classes classes, Roots roots, int kind) {
            newMany = 0;
            if (classes.d > 0 || n > 0) {
                int size = Math.abs(n);
                for (int g = 1; g <= MANY_STEPS && g * g <= size; g++) {
                    if (n % (g * g) == 0 && !searchWith(g, n / (g * g), classes, roots, kind)) {
                        return false;
                    }
                }
            }
            System.arraycopy(newDivisors, 0, divisors, 0, newMany);
            System.arraycopy(newRoots, 0, rootsTold, 0, newMany);
            many = newMany;
            solved = n;
            toldAt = -1;
            return true;
        }

        private boolean searchWith(int g, int m, Classes classes, Roots roots, int kind) {
            int first = newMany;
            roots.find(classes.d, Math.abs(m));
            for (int i = 0; i < roots.many; i++) {
                if (classes.primitiveClass(m, roots.list[i]) == kind) {
                    if (newMany >= MOST_FAMILIES) {
                        return false;
                    }
                    insert(first, g, roots.list[i]);
                }
            }
            return true;
        }

        private void insert(int first, int g, int b) {
            int at = newMany;
            while (at > first && newRoots[at - 1] > b) {
                newRoots[at] = newRoots[at - 1];
                at--;
            }
            newRoots[at] = b;
            newDivisors[newMany] = g;
            newMany++;
        }

        Point tell(int i, Classes classes, Hand hand, Units units) {
            if (i != toldAt && has(i)) {
                findOne(i, classes, hand);
                descend(hand, units);
                here.makePositive();
                here.scale(divisors[i]);
                toldAt = i;
            }
            return here;
        }

        /** Sets some solution of the family, but for its divisor. */
        private void findOne(int i, Classes classes, Hand hand) {
            long m = quotient(solved, (long) divisors[i] * divisors[i]);
            long b = rootsTold[i];
            Walk walk = classes.walk;
            walk.start(m, b, classes.third(m, b));
            long r = 0;
            long s = 1;
            for (int j = 0; j < MANY_STEPS && !walk.isReduced(); j++) {
                long newS = s * walk.step() - r;
                r = s;
                s = newS;
            }
            hand.goTo(classes, walk.key(), matrix);
            combine(here.x, matrix.p, s, matrix.q, r);
            combine(here.y, matrix.r, s, matrix.s, r);
        }

        private void combine(Big into, Big first, long s, Big second, long r) {
            into.scale(first, s);
            lent.scale(second, -r);
            into.add(lent, 1);
        }

        /** |y| falls along a family to its least and then rises: goes to where it is least. */
        private void descend(Hand hand, Units units) {
            hand.takeBack(here, units, before);
            if (before.isBefore(here)) {
                Point better = before;
                before = here;
                here = better;
            }
            for (int i = 0; i < MANY_STEPS; i++) {
                after.follow(here, before, units.t);
                if (!after.isBefore(here)) {
                    return;
                }
                Point free = before;
                before = here;
                here = after;
                after = free;
            }
        }
    }
}
