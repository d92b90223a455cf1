import java.lang.management.ManagementFactory;
import java.math.BigInteger;
import java.util.ArrayList;
import java.util.List;
import java.util.function.IntSupplier;

/** One method for each sentence of the document that names a boundary case; the sentence stands above it. */
public final class FormHouseEdges {
    private static final int LEAST = Integer.MIN_VALUE;
    private static final int GREATEST = Integer.MAX_VALUE;
    private static final int TOP = 1073741824;
    private static final String INDEX = "IndexOutOfBoundsException";
    private static final String ARGUMENT = "IllegalArgumentException";
    private static final String STATE = "IllegalStateException";

    private static int wrong = 0;
    private static String sentence = "";

    public static void main(String[] args) {
        terms();
        promises1to12();
        promises13to24();
        System.out.println(wrong == 0 ? "all edges hold" : wrong + " edges don't hold");
        if (wrong != 0) {
            System.exit(1);
        }
    }

    private static void terms() {
        atMost512Calls();
        memoryIsItsOwn();
        memoryIsMadeOnce();
        whatDCanBe();
        howGreatFormsAre();
        onlyOneInCommon();
        aAboveZero();
        reducedBelow();
        reducedAbove();
        nameWithLeastA();
        nameWithLeastB();
        nextWithinC();
        nextBelowRoot();
        nextBelow();
        wayOfNoSteps();
        wayOfFormNearName();
        formAtHand();
        powersOfTerms();
        orderOfPrincipal();
        asLongAsThereAreSuch();
        ofTheseTheFirst();
        exponentsInBounds();
        characterWherePrimeDivides();
        unitAbove();
        unitBelow();
        bothZeroIfNone();
        leastY();
        leastX();
        yAboveZero();
        yZero();
        xAboveZero();
        rootsInBounds();
        orderOfFamilies();
        tellersNeedForms();
        indexAheadOfOthers();
        whatThrowsChangesNothing();
    }

    private static void promises1to12() {
        newObject();
        take();
        takeTellsNothing();
        countOfAnother();
        countOfUnits();
        countOfMinusFour();
        countOfSteps();
        countOfSolved();
        name();
        product();
        inverse();
        power();
        order();
        generator();
        exponent();
        prime();
        character();
    }

    private static void promises13to24() {
        kroneckerAtTwo();
        kroneckerBelow();
        kroneckerTooGreat();
        askRefuses();
        askTellsNoFamilies();
        form();
        solveTooGreat();
        solveFull();
        solveTooMany();
        solveEmpty();
        divisorAndRoot();
        tellersTooGreat();
        teller();
        sign();
        bits();
        word();
        wordTooFar();
        residueBelow();
        residueRefuses();
    }

    private static void say(String words) {
        sentence = words;
    }

    private static void fail(String text) {
        wrong++;
        System.out.println("\"" + sentence + "\": " + text);
    }

    private static void due(String call, Object got, Object want) {
        if (!got.equals(want)) {
            fail(call + " answered " + got + ", due is " + want);
        }
    }

    private static void dueThrow(String call, IntSupplier made, String want) {
        String got = "nothing";
        try {
            made.getAsInt();
        } catch (RuntimeException e) {
            got = e.getClass().getSimpleName();
        }
        if (!got.equals(want)) {
            fail(call + " threw " + got + ", due is " + want);
        }
    }

    private static FormHouse with(int d) {
        FormHouse x = new FormHouse();
        x.take(d);
        return x;
    }

    private static FormHouse with(int d, int a, int b, int c) {
        FormHouse x = with(d);
        x.ask(a, b, c);
        return x;
    }

    private static BigInteger number(FormHouse x, int i) {
        BigInteger size = BigInteger.ZERO;
        for (int k = x.bits(i) / 32; k >= 0; k--) {
            size = size.shiftLeft(32).add(BigInteger.valueOf(x.word(i, k) & 0xFFFFFFFFL));
        }
        return x.sign(i) < 0 ? size.negate() : size;
    }

    private static void dueNumbers(FormHouse x, int from, long... want) {
        for (int i = 0; i < want.length; i++) {
            due("number " + (from + i), number(x, from + i), BigInteger.valueOf(want[i]));
        }
    }

    /** What can be seen of an object, with at most some 180 calls. */
    private static List<Integer> seen(FormHouse x) {
        List<Integer> all = new ArrayList<>();
        for (int what = 0; what <= 14; what++) {
            all.add(x.count(what));
        }
        for (int k = 0; k < Math.min(x.count(1), 4); k++) {
            all.add(x.name(k, 0));
            all.add(x.name(k, 1));
            all.add(x.order(k));
        }
        for (int what = 0; what < 3; what++) {
            all.add(x.form(what));
        }
        for (int i = 0; i < x.count(12); i += 1 + x.count(12) / 20) {
            all.add(x.divisor(i));
            all.add(x.root(i));
            all.add(x.residue(12 + 2 * i, GREATEST));
            all.add(x.residue(13 + 2 * i, GREATEST));
        }
        for (int i = 0; i < Math.min(x.count(14), 10); i++) {
            all.add(x.teller(i));
        }
        for (int i = 0; i < 12; i++) {
            all.add(x.residue(i, GREATEST));
        }
        return all;
    }

    // Terms

    private static void atMost512Calls() {
        say("An object is used for at most 512 calls after it has been made");
        FormHouse x = new FormHouse();
        int[] ds = {1007161, -1036031, 1048573, -1048576, 5, -3};
        for (int calls = 0; calls < 505; calls += 5) {
            int d = ds[calls / 5 % ds.length];
            due("classes of " + d, x.take(d), x.count(1));
            x.solve(720);
            x.bits(12 + 2 * x.count(12) - 1);
        }
        due("call 506", x.take(-3299), 27);
        due("call 507", x.count(2), 2);
        due("call 508", x.count(4), 9);
        due("call 509", x.take(-4), 1);
        due("call 510", x.solve(25), 3);
        due("call 511", x.root(1), 36);
        due("call 512", x.word(12, 0), 4);
    }

    private static void memoryIsItsOwn() {
        say("All memory is its own");
        FormHouse one = with(40, 2, 0, -5);
        one.solve(3);
        one.tellers(3);
        List<Integer> before = seen(one);
        FormHouse two = with(1007161);
        two.ask(-1, 1, 251790);
        two.solve(36);
        two.tellers(36);
        two.bits(12);
        seen(two);
        due("what one house tells after another was used", seen(one), before);
    }

    private static void memoryIsMadeOnce() {
        say("All memory is its own, made once");
        FormHouse x = new FormHouse();
        long before = allocated();
        for (int i = 0; i < 80; i++) {
            x.take(i % 2 == 0 ? 1048573 : -1048571);
            x.solve(900);
            x.tellers(900);
            x.count(2);
            x.bits(0);
            x.bits(4);
        }
        due("whether 480 calls make more than a million bytes", allocated() - before > 1000000, false);
        due("classes of 1048573", x.take(1048573), 1);
    }

    /** How many bytes of objects this thread has made, 0 if the machine doesn't say. */
    private static long allocated() {
        if (ManagementFactory.getThreadMXBean() instanceof com.sun.management.ThreadMXBean threads) {
            return threads.getThreadAllocatedBytes(Thread.currentThread().getId());
        }
        return 0;
    }

    private static void whatDCanBe() {
        say("D, the discriminant at hand, is no square, like 0 or 1 modulo 4, from -1048576 to 1048576");
        FormHouse[] x = {new FormHouse()};
        for (int r = 0; r <= 1025; r++) {
            int square = r * r;
            x[0] = r % 400 == 0 ? new FormHouse() : x[0];
            dueThrow("take(" + square + ")", () -> x[0].take(square), ARGUMENT);
        }
        FormHouse small = new FormHouse();
        for (int d = -60; d <= 60; d++) {
            int taken = d;
            boolean isSquare = d == 0 || d == 1 || d == 4 || d == 9 || d == 16 || d == 25 || d == 36 || d == 49;
            boolean can = !isSquare && (d % 4 == 0 || d % 4 == 1 || d % 4 == -3);
            dueThrow("take(" + d + ")", () -> small.take(taken), can ? "nothing" : ARGUMENT);
        }
        FormHouse far = new FormHouse();
        for (int past = -8; past <= 8; past++) {
            int below = -1048576 - past;
            int above = 1048576 + past;
            dueThrow("take(" + below + ")", () -> far.take(below),
                past <= 0 && Math.floorMod(below, 4) < 2 ? "nothing" : ARGUMENT);
            dueThrow("take(" + above + ")", () -> far.take(above),
                past < 0 && Math.floorMod(above, 4) < 2 ? "nothing" : ARGUMENT);
        }
        for (int d : new int[] {LEAST, LEAST + 1, GREATEST, GREATEST - 2, -TOP, TOP, 46340 * 46340, 65536 * 16384}) {
            dueThrow("take(" + d + ")", () -> far.take(d), ARGUMENT);
        }
    }

    private static void howGreatFormsAre() {
        say("a, b and c are from -1073741824 to 1073741824");
        int[][] can = {{131073, TOP, 65537, 1}, {131073, -TOP, 65537, -1}, {131073, 1, 65537, TOP},
            {131073, -1, 65537, -TOP}, {131073, -1, -65537, -TOP}, {4632, 536847742, TOP, 536894083},
            {4632, 536847742, -TOP, 536894083}, {-4, 1, 65534, 1073676290}};
        for (int[] f : can) {
            FormHouse x = with(f[0]);
            due("the class of " + f[1] + ", " + f[2] + ", " + f[3], x.ask(f[1], f[2], f[3]), x.count(9));
            due("form(0)", x.form(0), f[1]);
            due("form(1)", x.form(1), f[2]);
            due("form(2)", x.form(2), f[3]);
            dueTaken(x);
        }
        int[][] cannot = {{-4, TOP + 1, 65536, 1}, {-4, 1, 65536, TOP + 1}, {131069, -TOP - 1, 65537, -1},
            {131069, -1, 65537, -TOP - 1}, {131069, -1, -65537, -TOP - 1}, {97313, 536847742, TOP + 1, 536894084},
            {97313, 536847742, -TOP - 1, 536894084}, {-88051, 536847743, TOP + 1, 536894083}};
        for (int[] f : cannot) {
            long value = (long) f[2] * f[2] - 4L * f[1] * f[3];
            due("b b - 4 a c of the form that is too great", value, (long) f[0]);
            FormHouse x = with(f[0]);
            dueThrow("ask(" + f[1] + ", " + f[2] + ", " + f[3] + ")", () -> x.ask(f[1], f[2], f[3]), ARGUMENT);
        }
    }

    /** The matrix takes the name to the form at hand: modulo two primes, as it may have thousands of bits. */
    private static void dueTaken(FormHouse x) {
        for (int m : new int[] {GREATEST, 1000003}) {
            BigInteger[] matrix = new BigInteger[4];
            for (int i = 0; i < 4; i++) {
                matrix[i] = BigInteger.valueOf(x.residue(i, m));
            }
            dueTaken(x, matrix, BigInteger.valueOf(m));
        }
    }

    private static void dueTaken(FormHouse x, BigInteger[] matrix, BigInteger m) {
        BigInteger p = matrix[0];
        BigInteger q = matrix[1];
        BigInteger r = matrix[2];
        BigInteger s = matrix[3];
        BigInteger a = BigInteger.valueOf(x.form(0));
        BigInteger b = BigInteger.valueOf(x.form(1));
        BigInteger c = BigInteger.valueOf(x.form(2));
        due("p s - q r", p.multiply(s).subtract(q.multiply(r)).mod(m), BigInteger.ONE);
        due("what the name comes to for (p, r)", value(x, p, r).mod(m), a.mod(m));
        due("what the name comes to for (q, s)", value(x, q, s).mod(m), c.mod(m));
        due("what the name comes to for (p + q, r + s)", value(x, p.add(q), r.add(s)).mod(m), a.add(b).add(c).mod(m));
    }

    private static BigInteger value(FormHouse x, BigInteger v, BigInteger w) {
        int k = x.count(9);
        BigInteger a = BigInteger.valueOf(x.name(k, 0));
        BigInteger b = BigInteger.valueOf(x.name(k, 1));
        BigInteger c = BigInteger.valueOf(x.name(k, 2));
        return a.multiply(v).add(b.multiply(w)).multiply(v).add(c.multiply(w).multiply(w));
    }

    private static void onlyOneInCommon() {
        say("and have only 1 in common");
        int[][] cannot = {{-12, 2, 2, 2}, {-16, 2, 0, 2}, {-27, 3, 3, 3}, {45, 3, 3, -3}, {32, 2, 0, -4},
            {-1048576, 512, 0, 512}, {49 * 5, -7, 7, 7}, {20, 2, 2, -2}};
        for (int[] f : cannot) {
            due("b b - 4 a c", f[2] * f[2] - 4 * f[1] * f[3], f[0]);
            FormHouse x = with(f[0]);
            dueThrow("ask(" + f[1] + ", " + f[2] + ", " + f[3] + ")", () -> x.ask(f[1], f[2], f[3]), ARGUMENT);
        }
        // Each two of these numbers have more in common, but not all three.
        due("ask(6, 10, 15)", with(-260).ask(6, 10, 15), with(-260, 6, -2, 11).count(9));
        due("classes of -12", with(-12).count(1), 1);
        due("classes of -16", with(-16).count(1), 1);
        due("classes of 20", with(20).count(1), 1);
        due("reduced forms of 20", with(20).count(5), 2);
        due("classes of 45", with(45).count(1), 2);
    }

    private static void aAboveZero() {
        say("and a is above 0 if D is below 0");
        FormHouse x = with(-4);
        dueThrow("ask(-1, 0, -1)", () -> x.ask(-1, 0, -1), ARGUMENT);
        dueThrow("ask(-5, 4, -1)", () -> x.ask(-5, 4, -1), ARGUMENT);
        due("ask(5, 4, 1)", x.ask(5, 4, 1), 0);
        due("names below 0 are above 0", with(-1048575).name(0, 0), 1);
        FormHouse above = with(5);
        due("ask(-1, 1, 1)", above.ask(-1, 1, 1), 0);
        dueThrow("ask(0, 1, 1)", () -> above.ask(0, 1, 1), ARGUMENT);
        dueThrow("ask(1, 1, 0)", () -> above.ask(1, 1, 0), ARGUMENT);
    }

    private static void reducedBelow() {
        say("|b| <= a <= c, and b is not below 0 if |b| = a or a = c");
        due("reduced forms of -3", with(-3).count(5), 1);
        due("reduced forms of -4", with(-4).count(5), 1);
        due("reduced forms of -7", with(-7).count(5), 1);
        due("reduced forms of -15", with(-15).count(5), 2);
        due("reduced forms of -20", with(-20).count(5), 2);
        due("reduced forms of -35", with(-35).count(5), 2);
        due("reduced forms of -39", with(-39).count(5), 4);
        FormHouse equal = with(-39);
        // (1, 1, 10), (2, -1, 5), (2, 1, 5), (3, 3, 4)
        due("name(3, 0)", equal.name(3, 0), 3);
        due("name(3, 1), |b| = a", equal.name(3, 1), 3);
        due("name(1, 1) where a = c", with(-15).name(1, 1), 1);
        FormHouse square = with(-15, 2, -1, 2);
        due("steps from (2, -1, 2)", square.count(11), 1);
        FormHouse turned = with(-7, 1, -1, 2);
        due("steps from (1, -1, 2)", turned.count(11), 2);
        dueNumbers(turned, 0, -1, 1, 0, -1);
    }

    private static void reducedAbove() {
        say("D above 0: 0 < b < R and R - b < 2 |a| < R + b");
        due("reduced forms of 5", with(5).count(5), 2);
        due("reduced forms of 8", with(8).count(5), 2);
        due("reduced forms of 12", with(12).count(5), 4);
        due("reduced forms of 13", with(13).count(5), 2);
        due("reduced forms of 17", with(17).count(5), 6);
        due("reduced forms of 21", with(21).count(5), 4);
        due("steps from (1, 2, -1)", with(8, 1, 2, -1).count(11), 0);
        due("steps from (1, 4, 2), b above R", with(8, 1, 4, 2).count(11) > 0, true);
        due("steps from (1, 0, -2), b = 0", with(8, 1, 0, -2).count(11) > 0, true);
        due("steps from (1, -2, -1), b below 0", with(8, 1, -2, -1).count(11) > 0, true);
        // R is 6.32; 2 |a| is above R + b, and below R - b.
        due("steps from (-6, 4, 1)", with(40, -6, 4, 1).count(11) > 0, true);
        due("steps from (1, 4, -6)", with(40, 1, 4, -6).count(11) > 0, true);
    }

    private static void nameWithLeastA() {
        say("the reduced form in it with the least a (with its sign: the one furthest below 0, if there are such)");
        FormHouse x = with(40);
        int[] want = {-3, 2, 3, -1, 6, 1};
        for (int i = 0; i < 6; i++) {
            due("name(" + i / 3 + ", " + i % 3 + ")", x.name(i / 3, i % 3), want[i]);
        }
        // (3, 3, -1) has the greater size, but the other a is below 0.
        due("name(1, 0) of 21", with(21).name(1, 0), -1);
        due("the class of (3, 3, -1)", with(21, 3, 3, -1).count(9), 1);
    }

    private static void nameWithLeastB() {
        say("of these that with the least b");
        int[][] forms = {{17, -2, 1, 2, 3, 1}, {28, -3, 2, 2, 4, 1}, {37, -3, 1, 3, 5, 1}, {41, -4, 3, 2, 5, 1}};
        for (int[] f : forms) {
            FormHouse x = with(f[0]);
            int k = x.ask(f[1], f[2], f[3]);
            due("D = " + f[0] + ": the class of the name with the greater b", x.ask(f[1], f[4], f[5]), k);
            due("D = " + f[0] + ": name(" + k + ", 0)", x.name(k, 0), f[1]);
            due("D = " + f[0] + ": name(" + k + ", 1)", x.name(k, 1), f[2]);
            due("D = " + f[0] + ": steps from the one with the greater b", x.count(10) > 0, true);
            due("D = " + f[0] + ": steps from the name", with(f[0], f[1], f[2], f[3]).count(10), 0);
        }
    }

    private static void nextWithinC() {
        say("if |c| is above R, with the e from 1 - |c| to |c|");
        // 14 goes into 7 + e: to (7, 7, 1), not to (7, -7, 1), then to (1, 3, -3) and (-3, 3, 1).
        FormHouse x = with(21, 1, -7, 7);
        due("count(11)", x.count(11), 2);
        due("count(10)", x.count(10), 3);
        due("count(9)", x.count(9), 0);
        dueNumbers(x, 0, 1, -6, 1, -5);
        FormHouse y = with(21, 1, 7, 7);
        due("count(11)", y.count(11), 2);
        dueTaken(y);
    }

    private static void nextBelowRoot() {
        say("otherwise with the greatest e below R");
        // (1, 0, -10), (-10, 0, 1), (1, 6, -1), (-1, 6, 1)
        FormHouse x = with(40);
        due("count(11)", x.count(11), 2);
        due("count(10)", x.count(10), 3);
        dueNumbers(x, 0, 6, -19, 1, -3);
        // R is 3.6 and 3 is the greatest e: (1, 1, -3), (-3, -1, 1), (1, 3, -1), (-1, 3, 1)
        FormHouse y = with(13);
        due("count(11)", y.count(11), 2);
        due("count(10)", y.count(10), 3);
    }

    private static void nextBelow() {
        say("D below 0: with the e from 1 - |c| to |c|");
        // 2 c = 2 goes into 1 + e: e is 1, not -1.
        FormHouse x = with(-3, 1, -1, 1);
        due("count(11)", x.count(11), 1);
        due("count(10)", x.count(10), 1);
        dueNumbers(x, 0, 0, 1, -1, 0);
        // (7, 0, 3) to (3, 0, 7): e is 0.
        due("steps from (7, 0, 3)", with(-84, 7, 0, 3).count(11), 1);
    }

    private static void wayOfNoSteps() {
        say("to the first reduced form (perhaps itself), .. (of none: (1, 0, 0, 1))");
        FormHouse x = with(-23, 2, -1, 3);
        due("count(10)", x.count(10), 0);
        due("count(11)", x.count(11), 0);
        dueNumbers(x, 0, 1, 0, 0, 1);
        FormHouse above = with(40, -3, 2, 3);
        due("count(10)", above.count(10), 0);
        due("count(11)", above.count(11), 0);
        dueNumbers(above, 0, 1, 0, 0, 1);
        FormHouse reduced = with(40, 3, 2, -3);
        due("count(11) of a reduced form that is no name", reduced.count(11), 0);
        due("count(10) of it", reduced.count(10) > 0, true);
        dueTaken(reduced);
    }

    private static void wayOfFormNearName() {
        say("THE WAY: from it, next by next, to the first reduced form");
        // Far from reduced, but 4096 a + b is the same as for the name (1, 1, 2).
        FormHouse x = with(-7, 2, -4095, 2096129);
        due("count(11)", x.count(11) > 0, true);
        due("count(10)", x.count(10), x.count(11));
        dueTaken(x);
        due("solve(2)", x.solve(2), 2);
        dueNumbers(x, 12, 1, 0, 1023, 1);
    }

    private static void formAtHand() {
        say("that which was asked latest since D was taken, otherwise the principal class's (1, e, (e - D) / 4)");
        FormHouse x = with(-23);
        dueForm(x, 1, 1, 6);
        x.ask(2, 1, 3);
        x.ask(3, -1, 2);
        dueForm(x, 3, -1, 2);
        x.take(-23);
        dueForm(x, 1, 1, 6);
        due("count(9)", x.count(9), 0);
        x.ask(2, 1, 3);
        x.take(40);
        dueForm(x, 1, 0, -10);
        due("count(9) is the principal class", x.count(9), 1);
        dueForm(with(-1048576), 1, 0, 262144);
        dueForm(with(1048573), 1, 1, -262143);
    }

    private static void dueForm(FormHouse x, int a, int b, int c) {
        due("form(0)", x.form(0), a);
        due("form(1)", x.form(1), b);
        due("form(2)", x.form(2), c);
    }

    private static void powersOfTerms() {
        say("n times a class as a factor, or, for n below 0, its inverse -n times; the principal class for 0");
        FormHouse x = with(-47);
        for (int k = 0; k < 5; k++) {
            int up = x.count(3);
            int down = x.count(3);
            for (int n = 0; n < 12; n++) {
                due("power(" + k + ", " + n + ")", x.power(k, n), up);
                due("power(" + k + ", " + -n + ")", x.power(k, -n), down);
                up = x.product(up, k);
                down = x.product(down, x.inverse(k));
            }
        }
        FormHouse above = with(40);
        due("power(0, 0), the principal class being 1", above.power(0, 0), 1);
        due("power(1, 0)", above.power(1, 0), 1);
        due("power(0, -1)", above.power(0, -1), 0);
    }

    private static void orderOfPrincipal() {
        say("The ORDER of a class is the least n above 0 with which its power is the principal one");
        for (int d : new int[] {-4, -3, 5, 40, -84, -1048576, 1048572}) {
            FormHouse x = with(d);
            due("D = " + d + ": the order of the principal class", x.order(x.count(3)), 1);
        }
        FormHouse x = with(-47);
        for (int k = 1; k < 5; k++) {
            due("order(" + k + ")", x.order(k), 5);
        }
        // 9 classes: 4 is no order, though the class's power is never principal before 9.
        FormHouse nine = with(-199);
        due("classes of -199", nine.count(1), 9);
        due("the greatest order", nine.count(4), 9);
    }

    private static void asLongAsThereAreSuch() {
        say("among those that aren't principal .. as long as there are such");
        for (int d : new int[] {-4, -3, -163, 5, 1048573}) {
            FormHouse x = with(d);
            due("D = " + d + ": classes", x.count(1), 1);
            due("D = " + d + ": generators", x.count(2), 0);
            due("D = " + d + ": the greatest order", x.count(4), 1);
            dueThrow("generator(0)", () -> x.generator(0), INDEX);
            dueThrow("exponent(0, 0)", () -> x.exponent(0, 0), INDEX);
        }
        due("generators of -84", with(-84).count(2), 2);
        due("generators of -5460", with(-5460).count(2), 4);
        due("generators of -1021020", with(-1021020).count(2), 5);
    }

    private static void ofTheseTheFirst() {
        say("each is the class of the greatest order (of these the first)");
        FormHouse x = with(-5460);
        due("the greatest order", x.count(4), 2);
        due("classes", x.count(1), 16);
        // All classes have order 2 but the first; 3 is the product of 1 and 2 or comes next.
        due("generator(0)", x.generator(0), 1);
        due("generator(1)", x.generator(1), 2);
        due("generator(2)", x.generator(2), x.product(1, 2) == 3 ? 4 : 3);
        FormHouse eight = with(-47);
        due("generator(0) of a prime order", eight.generator(0), 1);
        FormHouse above = with(40);
        due("generator(0), the principal class being 1", above.generator(0), 0);
        FormHouse mixed = with(-39);
        due("generator(0): the class (2, -1, 5) of order 4", mixed.generator(0), 1);
        due("order(3)", mixed.order(3), 2);
    }

    private static void exponentsInBounds() {
        say("EXPONENTS from 0 to one less than their orders");
        FormHouse x = with(-47);
        for (int n = 0; n < 5; n++) {
            due("exponent of power " + n, x.exponent(x.power(1, n), 0), n);
        }
        due("exponent of the inverse", x.exponent(x.inverse(1), 0), 4);
        FormHouse above = with(40);
        due("exponent(1, 0), of the principal class", above.exponent(1, 0), 0);
        due("exponent(0, 0), of the generator", above.exponent(0, 0), 1);
    }

    private static void characterWherePrimeDivides() {
        say("a number .. into which the prime doesn't go");
        // (3, 0, 7): 7 is like 1 modulo 3, and 3 is like no square modulo 7.
        due("character(2, 0) of -84", with(-84).character(2, 0), 1);
        due("character(2, 1) of -84", with(-84).character(2, 1), -1);
        // (5, 0, 13) for 5 and 13: 13 is like 3, 5 is like no square.
        FormHouse x = with(-260);
        int k = x.ask(5, 0, 13);
        due("the character for 5", x.character(k, 0), -1);
        due("the character for 13", x.character(k, 1), -1);
        // (-2, 2, 1) and (-1, 2, 2) for 3
        due("character(0, 0) of 12", with(12).character(0, 0), 1);
        due("character(1, 0) of 12", with(12).character(1, 0), -1);
        // A prime that goes into D more than once is one prime.
        due("primes of -27", with(-27).count(6), 1);
        due("character(0, 0) of -27", with(-27).character(0, 0), 1);
    }

    private static void unitAbove() {
        say("the numbers t and u above 0 with t t - D u u = 4 of which u is least");
        dueNumbers(with(5), 4, 3, 1, 1, 1);
        dueNumbers(with(8), 4, 6, 2, 2, 1);
        dueNumbers(with(12), 4, 4, 1, 0, 0);
        dueNumbers(with(13), 4, 11, 3, 3, 1);
        dueNumbers(with(20), 4, 18, 4, 4, 1);
        dueNumbers(with(21), 4, 5, 1, 0, 0);
        dueNumbers(with(61), 4, 1523, 195, 39, 5);
        dueNumbers(with(94 * 4), 4, 2 * 2143295, 221064, 0, 0);
        dueNumbers(with(1024 * 1024 - 4), 4, 1024, 1, 0, 0);
        dueNumbers(with(1020 * 1020 + 4), 4, 1020 * 1020 + 2, 1020, 1020, 1);
    }

    private static void unitBelow() {
        say("(1, 1) for D = -3, (0, 1) for D = -4, (2, 0) for other D below 0");
        dueNumbers(with(-3), 4, 1, 1, 0, 0, 0, -1, 1, 1);
        dueNumbers(with(-4), 4, 0, 1, 0, 0, 0, -1, 1, 0);
        dueNumbers(with(-7), 4, 2, 0, 0, 0, 1, 0, 0, 1);
        dueNumbers(with(-8), 4, 2, 0, 0, 0, 1, 0, 0, 1);
        dueNumbers(with(-12), 4, 2, 0, 0, 0, 1, 0, 0, 1);
        dueNumbers(with(-16), 4, 2, 0, 0, 0, 1, 0, 0, 1);
        dueNumbers(with(-1048576), 4, 2, 0, 0, 0, 1, 0, 0, 1);
        dueNumbers(with(-3, 3, -3, 1), 8, 2, -1, 3, -1);
        dueNumbers(with(-4, 5, 4, 1), 8, -2, -1, 5, 2);
    }

    private static void bothZeroIfNone() {
        say("both 0 if there are none");
        for (int d : new int[] {12, 21, 28, 44, 1048572, -4, -3, -7, -1048576}) {
            dueNumbers(with(d), 6, 0, 0);
            due("count(8) of " + d, with(d).count(8), 0);
        }
        // Back from a D that has such numbers to one that has none.
        FormHouse x = with(5);
        dueNumbers(x, 6, 1, 1);
        x.take(12);
        dueNumbers(x, 4, 4, 1, 0, 0);
        x.take(-7);
        dueNumbers(x, 4, 2, 0, 0, 0);
    }

    private static void dueSolutions(FormHouse x, int n, long... want) {
        due("solve(" + n + ")", x.solve(n), want.length / 2);
        if (x.count(12) == want.length / 2) {
            dueNumbers(x, 12, want);
        }
    }

    private static void leastY() {
        say("A family is TOLD by its solution with the least |y|");
        // x x - 2 y y = 1: (1, 0), not (3, 2); = -1: (1, 1), not (7, 5); = 7: (-3, 1) of root 6 and (3, 1) of root 8.
        dueSolutions(with(8), 1, 1, 0);
        dueSolutions(with(8), -1, 1, 1);
        FormHouse x = with(8);
        x.solve(7);
        due("the root of family 0", x.root(0), 6);
        dueNumbers(x, 12, -3, 1, 3, 1);
        // (x + 3 y)(x + 3 y) - 2 y y = 1
        dueSolutions(with(8, 1, 6, 7), 1, 1, 0);
        // With y and x changed: -2 x x + y y = 1 has y = 1 at least.
        dueSolutions(with(8, -2, 0, 1), 1, 0, 1);
        dueSolutions(with(-4, 5, 4, 1), 1, 0, 1);
    }

    private static void leastX() {
        say("of these by that with the least |x|");
        // -2 (x - y)(x - y) + y y = 2: (1, 2) and (3, 2)
        dueSolutions(with(8, -2, 4, -1), 2, 1, 2);
        // -2 (x + y)(x + y) + y y = 2: (-1, 2) and (-3, 2)
        dueSolutions(with(8, -2, -4, -1), 2, -1, 2);
        // (x - y)(x - y) + y y = 2: (0, 1) and (2, 1)
        dueSolutions(with(-4, 1, -2, 2), 2, 0, 1);
        dueSolutions(with(-4, 1, -4, 5), 2, 1, 1);
        dueSolutions(with(-4, 1, 4, 5), 2, -1, 1);
    }

    private static void yAboveZero() {
        say("of these by one with y above 0");
        dueSolutions(with(-7), 2, -1, 1, 0, 1);
        dueSolutions(with(-23), 6, -1, 1, 0, 1);
        dueSolutions(with(5, -1, 1, 1), 1, 0, 1);
        dueSolutions(with(-23, 6, -1, 1), 1, 0, 1);
    }

    private static void yZero() {
        say("or y = 0 and x above 0, if there are some");
        dueSolutions(with(-4), 1, 1, 0);
        dueSolutions(with(-23), 1, 1, 0);
        dueSolutions(with(5), 4, 2, 0);
        dueSolutions(with(12, -1, 0, 3), -1, 1, 0);
        dueSolutions(with(-1048576), 1, 1, 0);
        FormHouse x = with(-1048576);
        due("solve(1000000)", x.solve(1000000) > 0, true);
        int last = x.count(12) - 1;
        due("the greatest divisor", x.divisor(last), 1000);
        dueNumbers(x, 12 + 2 * last, 1000, 0);
    }

    private static void xAboveZero() {
        say("of these by that with x above 0, if there are two");
        dueSolutions(with(-4), 2, 1, 1);
        dueSolutions(with(8, -2, 0, 1), 2, 1, 2);
        dueSolutions(with(8, -2, 0, 1), -1, 1, 1);
        dueSolutions(with(8), -2, 0, 1);
        dueSolutions(with(-3), 3, 1, 1);
        dueSolutions(with(12), -2, 1, 1);
    }

    private static void rootsInBounds() {
        say("its ROOT is the b from 0 to 2 |m| - 1");
        FormHouse x = new FormHouse();
        x.solve(1);
        due("root(0) of 1", x.root(0), 0);
        x.solve(2);
        due("root(0) of 2", x.root(0), 2);
        FormHouse three = with(-3);
        three.solve(1);
        due("root(0) of 1", three.root(0), 1);
        FormHouse five = with(5);
        five.solve(-1);
        due("root(0) of -1", five.root(0), 1);
        FormHouse high = with(17);
        due("solve(-4)", high.solve(-4), 3);
        due("root(0) of -4", high.root(0), 1);
        due("root(1) of -4", high.root(1), 7);
        due("root(2) of -4", high.root(2), 1);
    }

    private static void orderOfFamilies() {
        say("Families are in the order of their divisors, of equal ones in that of their roots");
        FormHouse x = with(17);
        due("solve(4)", x.solve(4), 3);
        int[] divisors = {1, 1, 2};
        int[] roots = {1, 7, 1};
        for (int i = 0; i < 3; i++) {
            due("divisor(" + i + ")", x.divisor(i), divisors[i]);
            due("root(" + i + ")", x.root(i), roots[i]);
        }
        FormHouse many = new FormHouse();
        int count = many.solve(5 * 5 * 13 * 17 * 4 * 9);
        int before = -1;
        for (int i = 0; i < count; i++) {
            int at = many.divisor(i) * 1000000 + many.root(i);
            due("whether family " + i + " comes behind the one before", at > before, true);
            before = at;
        }
        due("solve(198900)", count, 12);
    }

    private static void tellersNeedForms() {
        say("TELLERS of a number N are the classes of forms (N, b, c)");
        // (2, 2, 2) is no form, nor is (-1, 0, -1).
        due("tellers(2) of -12", with(-12).tellers(2), 0);
        due("tellers(-1) of -4", with(-4).tellers(-1), 0);
        due("tellers(-1000000) of -4", with(-4).tellers(-1000000), 0);
        due("tellers(1) of -4", with(-4).tellers(1), 1);
        // 4 = 2 2 + 0, but there is no form (4, b, c) of -4.
        due("tellers(4) of -4", with(-4).tellers(4), 0);
        due("solve(4) of -4", with(-4).solve(4), 1);
        due("tellers(4) of -12", with(-12).tellers(4), 1);
        due("tellers(512) of -1048576", with(-1048576).tellers(512), 0);
    }

    private static void indexAheadOfOthers() {
        say("IndexOutOfBoundsException: .. ahead of all others");
        FormHouse x = new FormHouse();
        dueThrow("residue(12, 0), no family", () -> x.residue(12, 0), INDEX);
        dueThrow("residue(-1, -1)", () -> x.residue(-1, -1), INDEX);
        dueThrow("residue(LEAST, LEAST)", () -> x.residue(LEAST, LEAST), INDEX);
        x.solve(1);
        dueThrow("residue(12, 0), one family", () -> x.residue(12, 0), ARGUMENT);
        dueThrow("residue(13, 0), one family", () -> x.residue(13, 0), ARGUMENT);
        dueThrow("residue(14, 0), one family", () -> x.residue(14, 0), INDEX);
    }

    private static void whatThrowsChangesNothing() {
        say("what throws changes nothing");
        for (int i = 0; i < 2; i++) {
            // With 98865 there are 260 families of -851760, with -23 none of another number.
            FormHouse x = i == 0 ? with(98865) : with(-23, 2, 1, 3);
            x.solve(i == 0 ? 36 : 3);
            x.tellers(i == 0 ? -36 : 6);
            List<Integer> before = seen(x);
            int d = x.count(0);
            dueThrow("take(7)", () -> x.take(7), ARGUMENT);
            dueThrow("take(4)", () -> x.take(4), ARGUMENT);
            dueThrow("ask(1, 1, 1)", () -> x.ask(1, 1, 1), ARGUMENT);
            dueThrow("ask(1, 65535, ..)", () -> x.ask(1, 65537, 1073774592 - d / 4), ARGUMENT);
            dueThrow("solve(0)", () -> x.solve(0), ARGUMENT);
            dueThrow("solve(1000001)", () -> x.solve(1000001), ARGUMENT);
            dueThrow("tellers(0)", () -> x.tellers(0), ARGUMENT);
            dueThrow("tellers(-1000001)", () -> x.tellers(-1000001), ARGUMENT);
            dueThrow("kronecker(4194305)", () -> x.kronecker(4194305), ARGUMENT);
            dueThrow("residue(0, 0)", () -> x.residue(0, 0), ARGUMENT);
            dueThrow("residue(524, 1)", () -> x.residue(524, 1), INDEX);
            dueThrow("word(0, 512)", () -> x.word(0, 512), INDEX);
            dueThrow("sign(-1)", () -> x.sign(-1), INDEX);
            dueThrow("bits(-1)", () -> x.bits(-1), INDEX);
            dueThrow("name(0, 3)", () -> x.name(0, 3), INDEX);
            dueThrow("product(0, -1)", () -> x.product(0, -1), INDEX);
            dueThrow("inverse(-1)", () -> x.inverse(-1), INDEX);
            dueThrow("power(-1, 2)", () -> x.power(-1, 2), INDEX);
            dueThrow("order(-1)", () -> x.order(-1), INDEX);
            dueThrow("generator(99)", () -> x.generator(99), INDEX);
            dueThrow("exponent(0, 99)", () -> x.exponent(0, 99), INDEX);
            dueThrow("prime(99)", () -> x.prime(99), INDEX);
            dueThrow("character(0, 99)", () -> x.character(0, 99), INDEX);
            dueThrow("form(3)", () -> x.form(3), INDEX);
            dueThrow("divisor(256)", () -> x.divisor(256), INDEX);
            dueThrow("root(256)", () -> x.root(256), INDEX);
            dueThrow("teller(-1)", () -> x.teller(-1), INDEX);
            if (i == 0) {
                dueThrow("solve(-851760)", () -> x.solve(-851760), STATE);
            }
            due("what is seen after calls that throw", seen(x), before);
        }
    }

    // Promises 1 to 12

    private static void newObject() {
        say("At first D is -4, and nothing is told");
        FormHouse x = new FormHouse();
        int[] want = {-4, 1, 0, 0, 1, 1, 0, 4, 0, 0, 0, 0, 0, 0, 0};
        for (int what = 0; what < want.length; what++) {
            due("count(" + what + ")", x.count(what), want[what]);
        }
        dueForm(x, 1, 0, 1);
        dueThrow("divisor(0)", () -> x.divisor(0), INDEX);
        dueThrow("root(0)", () -> x.root(0), INDEX);
        dueThrow("teller(0)", () -> x.teller(0), INDEX);
        dueThrow("sign(12)", () -> x.sign(12), INDEX);
        dueNumbers(x, 0, 1, 0, 0, 1, 0, 1, 0, 0, 0, -1, 1, 0);
        due("the first call asks", new FormHouse().ask(1, 0, 1), 0);
        due("the first call solves", new FormHouse().solve(2), 1);
        due("the first call tells", new FormHouse().tellers(2), 1);
        due("the first call goes by a symbol", new FormHouse().kronecker(-1), -1);
    }

    private static void take() {
        say("D becomes d .. how many classes there are. IllegalArgumentException: D can't be d");
        FormHouse x = new FormHouse();
        int[] ds = {-3, -4, -23, 5, 12, 40, -1048576, -1048575, 1048573, 1048572, -1036031};
        int[] classes = {1, 1, 3, 1, 2, 2, 256, 864, 1, 96, 1908};
        for (int i = 0; i < ds.length; i++) {
            due("take(" + ds[i] + ")", x.take(ds[i]), classes[i]);
            due("count(0)", x.count(0), ds[i]);
            due("count(1)", x.count(1), classes[i]);
        }
        dueThrow("take(1048576)", () -> x.take(1048576), ARGUMENT);
        due("count(0)", x.count(0), -1036031);
    }

    private static void takeTellsNothing() {
        say("no families and no tellers are told");
        for (int d : new int[] {-23, 5, -3}) {
            FormHouse x = with(-23, 2, 1, 3);
            x.solve(3);
            x.tellers(6);
            due("families ahead of take", x.count(12) > 0 && x.count(14) > 0, true);
            x.take(d);
            due("count(12)", x.count(12), 0);
            due("count(13)", x.count(13), 0);
            due("count(14)", x.count(14), 0);
            dueThrow("divisor(0)", () -> x.divisor(0), INDEX);
            dueThrow("root(0)", () -> x.root(0), INDEX);
            dueThrow("teller(0)", () -> x.teller(0), INDEX);
            dueThrow("sign(12)", () -> x.sign(12), INDEX);
        }
    }

    private static void countOfAnother() {
        say("-1 for another what");
        FormHouse x = with(40);
        for (int what : new int[] {15, 16, 100, 256, 65536, GREATEST, -1, -2, -100, LEAST}) {
            due("count(" + what + ")", x.count(what), -1);
        }
    }

    private static void countOfUnits() {
        say("7: how many (t, u) there are with t t - D u u = 4, if D is below 0, else -1");
        int[] ds = {-3, -4, -7, -8, -11, -12, -1048576, 5, 1048573};
        int[] units = {6, 4, 2, 2, 2, 2, 2, -1, -1};
        for (int i = 0; i < ds.length; i++) {
            due("count(7) of " + ds[i], with(ds[i]).count(7), units[i]);
        }
    }

    private static void countOfMinusFour() {
        say("8: 1 if there are t and u with t t - D u u = -4 and D is above 0, else 0");
        int[] ds = {5, 8, 12, 13, 17, 20, 21, 40, 136, 145, 205, 1007161, 1048572, -3, -4, -8};
        int[] can = {1, 1, 0, 1, 1, 1, 0, 1, 0, 1, 0, 1, 0, 0, 0, 0};
        for (int i = 0; i < ds.length; i++) {
            due("count(8) of " + ds[i], with(ds[i]).count(8), can[i]);
        }
    }

    private static void countOfSteps() {
        say("10: how many steps the way has, 11: up to the first reduced form");
        FormHouse most = with(1007161);
        due("count(5) of the D with the most reduced forms", most.count(5), 4706);
        due("count(10)", most.count(10), 3263);
        due("count(11)", most.count(11), 2);
        dueTaken(most);
        FormHouse x = with(-4);
        due("count(10) of none", x.count(10), 0);
        due("count(11) of none", x.count(11), 0);
        x.ask(1, 65534, 1073676290);
        due("count(10), D below 0", x.count(10), x.count(11));
        dueTaken(x);
    }

    private static void countOfSolved() {
        say("13: the N that was solved latest (0 if none was since D was taken or a form was asked)");
        FormHouse x = with(5);
        due("none was", x.count(13), 0);
        x.solve(-1000000);
        due("solved", x.count(13), -1000000);
        x.solve(2);
        due("solved with no family", x.count(13), 2);
        x.tellers(4);
        due("tellers leave it", x.count(13), 2);
        x.ask(1, 1, -1);
        due("a form was asked", x.count(13), 0);
        x.solve(4);
        dueThrow("solve(0)", () -> x.solve(0), ARGUMENT);
        due("the one that was refused isn't solved", x.count(13), 4);
        x.take(5);
        due("D was taken", x.count(13), 0);
    }

    private static void dueNoClass(FormHouse x, int k) {
        String at = "class " + k + " of D = " + x.count(0) + ": ";
        dueThrow(at + "name", () -> x.name(k, 0), INDEX);
        dueThrow(at + "product", () -> x.product(k, 0), INDEX);
        dueThrow(at + "product", () -> x.product(0, k), INDEX);
        dueThrow(at + "product", () -> x.product(k, k), INDEX);
        dueThrow(at + "inverse", () -> x.inverse(k), INDEX);
        dueThrow(at + "power", () -> x.power(k, 0), INDEX);
        dueThrow(at + "power", () -> x.power(k, LEAST), INDEX);
        dueThrow(at + "order", () -> x.order(k), INDEX);
        dueThrow(at + "exponent", () -> x.exponent(k, 0), INDEX);
        dueThrow(at + "character", () -> x.character(k, 0), INDEX);
    }

    private static void name() {
        say("IndexOutOfBoundsException: there is no such class .. (or another what)");
        FormHouse x = with(-1036031);
        due("name(1907, 0)", x.name(1907, 0) > 0, true);
        for (int k : new int[] {1908, 1909, 2399, 2400, 4800, GREATEST, -1, LEAST}) {
            dueNoClass(x, k);
        }
        // Class 1908 was never there, but 3 to 1907 were with the D before.
        x.take(-23);
        due("name(2, 2)", x.name(2, 2), 3);
        for (int k : new int[] {3, 4, 1907, -1}) {
            dueNoClass(x, k);
        }
        for (int what : new int[] {3, 4, -1, GREATEST, LEAST}) {
            dueThrow("name(0, " + what + ")", () -> x.name(0, what), INDEX);
        }
        dueNoClass(new FormHouse(), 1);
        dueNoClass(with(1048573), 1);
    }

    private static void product() {
        say("The product of two classes");
        // (1, 1, 6), (2, -1, 3), (2, 1, 3)
        int[][] table = {{0, 1, 2}, {1, 2, 0}, {2, 0, 1}};
        FormHouse x = with(-23);
        for (int j = 0; j < 3; j++) {
            for (int k = 0; k < 3; k++) {
                due("product(" + j + ", " + k + ")", x.product(j, k), table[j][k]);
            }
        }
        due("product(0, 0) of one class", new FormHouse().product(0, 0), 0);
        // The squares of forms with a = b, where g is a.
        FormHouse two = with(-84);
        for (int k = 0; k < 4; k++) {
            due("product(" + k + ", " + k + ")", two.product(k, k), 0);
        }
        FormHouse above = with(40);
        due("product(0, 0), the principal class being 1", above.product(0, 0), 1);
        due("product(0, 1)", above.product(0, 1), 0);
        FormHouse last = with(-1036031);
        due("product(1907, 1907)", last.product(1907, 1907), last.power(1907, 2));
    }

    private static void inverse() {
        say("The INVERSE of a class is the one with which its product is the principal class");
        FormHouse x = with(-39);
        int[] want = {0, 2, 1, 3};
        for (int k = 0; k < 4; k++) {
            due("inverse(" + k + ")", x.inverse(k), want[k]);
        }
        for (int d : new int[] {-4, 40, 12, 136, 229, 1048572}) {
            FormHouse y = with(d);
            for (int k = 0; k < y.count(1); k++) {
                due("D = " + d + ": its product", y.product(y.inverse(k), k), y.count(3));
            }
        }
    }

    private static void power() {
        say("POWERS: for the greatest and the least n");
        // 2147483647 is 1 more than a multiple of 3 and of 9 times 238609294; -2147483648 is 1 more than one of 3.
        FormHouse x = with(-23);
        due("power(1, GREATEST)", x.power(1, GREATEST), 1);
        due("power(1, LEAST)", x.power(1, LEAST), 1);
        due("power(1, LEAST + 1)", x.power(1, LEAST + 1), 2);
        FormHouse five = with(-47);
        due("power(1, GREATEST)", five.power(1, GREATEST), five.product(1, 1));
        due("power(1, LEAST)", five.power(1, LEAST), five.product(1, 1));
        FormHouse most = with(-1036031);
        int g = most.generator(0);
        due("power(g, GREATEST)", most.exponent(most.power(g, GREATEST), 0), 2147483647 % 1908);
        due("power(g, LEAST)", most.exponent(most.power(g, LEAST), 0), (int) Math.floorMod(-2147483648L, 1908L));
        due("power(0, LEAST) of one class", new FormHouse().power(0, LEAST), 0);
    }

    private static void order() {
        say("4: the greatest order");
        int[] ds = {-4, -23, -39, -84, -3299, 136, 12, -1036031};
        int[] orders = {1, 3, 4, 2, 9, 4, 2, 1908};
        for (int i = 0; i < ds.length; i++) {
            FormHouse x = with(ds[i]);
            int greatest = 0;
            int many = Math.min(x.count(1), 400);
            for (int k = 0; k < many; k++) {
                greatest = Math.max(greatest, x.order(k));
            }
            due("count(4) of " + ds[i], x.count(4), orders[i]);
            due("the greatest of the orders of " + ds[i], greatest, orders[i]);
        }
    }

    private static void generator() {
        say("there is no such generator");
        int[] ds = {-4, -23, -84, 40, -5460, -1021020, -1036031};
        for (int d : ds) {
            FormHouse x = with(d);
            int many = x.count(2);
            for (int i : new int[] {many, many + 1, 16, 100, GREATEST, -1, LEAST}) {
                dueThrow("D = " + d + ": generator(" + i + ")", () -> x.generator(i), INDEX);
                dueThrow("D = " + d + ": exponent(0, " + i + ")", () -> x.exponent(0, i), INDEX);
            }
            int made = 1;
            for (int i = 0; i < many; i++) {
                made *= x.order(x.generator(i));
            }
            due("D = " + d + ": the product of the orders", made, x.count(1));
        }
        // A generator without a call of count or order ahead of it, and after another D.
        FormHouse x = with(-5460);
        due("generator(3)", x.generator(3) > 0, true);
        x.take(-23);
        due("generator(0)", x.generator(0), 1);
        dueThrow("generator(1)", () -> x.generator(1), INDEX);
    }

    private static void exponent() {
        say("The exponent of generator i in class k");
        FormHouse x = with(-84);
        int[][] want = {{0, 0}, {1, 0}, {0, 1}, {1, 1}};
        for (int k = 0; k < 4; k++) {
            due("exponent(" + k + ", 0)", x.exponent(k, 0), want[k][0]);
            due("exponent(" + k + ", 1)", x.exponent(k, 1), want[k][1]);
        }
        dueThrow("exponent(4, 0)", () -> x.exponent(4, 0), INDEX);
        dueThrow("exponent(0, 2)", () -> x.exponent(0, 2), INDEX);
        dueThrow("exponent(4, 2)", () -> x.exponent(4, 2), INDEX);
    }

    private static void prime() {
        say("The i-th odd prime that goes into D, from 0 on");
        int[][] primes = {{-4}, {-1048576}, {8}, {-3, 3}, {5, 5}, {-27, 3}, {72, 3}, {45, 3, 5}, {12, 3},
            {1048573, 1048573}, {-1021020, 3, 5, 7, 11, 13, 17}, {1009 * 1033, 1009, 1033}, {5 * 449 * 449, 5, 449},
            {-3 * 587 * 587, 3, 587}, {-4 * 1009 * 257, 257, 1009}};
        for (int[] row : primes) {
            FormHouse x = with(row[0]);
            due("primes of " + row[0], x.count(6), row.length - 1);
            for (int i = 0; i + 1 < row.length; i++) {
                due("D = " + row[0] + ": prime(" + i + ")", x.prime(i), row[i + 1]);
            }
            for (int i : new int[] {row.length - 1, 8, 100, GREATEST, -1, LEAST}) {
                dueThrow("D = " + row[0] + ": prime(" + i + ")", () -> x.prime(i), INDEX);
            }
        }
    }

    private static void character() {
        say("The character of class k for the i-th prime");
        FormHouse x = with(-4);
        dueThrow("character(0, 0), no prime", () -> x.character(0, 0), INDEX);
        FormHouse y = with(-84);
        int[][] want = {{1, 1}, {-1, 1}, {1, -1}, {-1, -1}};
        for (int k = 0; k < 4; k++) {
            due("character(" + k + ", 0)", y.character(k, 0), want[k][0]);
            due("character(" + k + ", 1)", y.character(k, 1), want[k][1]);
        }
        for (int i : new int[] {2, 3, 8, GREATEST, -1, LEAST}) {
            dueThrow("character(0, " + i + ")", () -> y.character(0, i), INDEX);
            dueThrow("character(4, " + i + ")", () -> y.character(4, i), INDEX);
        }
    }

    // Promises 13 to 24

    private static void kroneckerAtTwo() {
        say("of 2: 0 if D is even, 1 if D is like 1 or 7 modulo 8, else -1");
        int[] ds = {-4, 8, 12, -1048576, 17, 33, -7, -15, -23, 5, 13, 21, -3, -11, -19};
        int[] two = {0, 0, 0, 0, 1, 1, 1, 1, 1, -1, -1, -1, -1, -1, -1};
        for (int i = 0; i < ds.length; i++) {
            FormHouse x = with(ds[i]);
            due("D = " + ds[i] + ": kronecker(2)", x.kronecker(2), two[i]);
            due("D = " + ds[i] + ": kronecker(4)", x.kronecker(4), two[i] * two[i]);
            due("D = " + ds[i] + ": kronecker(8)", x.kronecker(8), two[i]);
            due("D = " + ds[i] + ": kronecker(-2)", x.kronecker(-2), ds[i] < 0 ? -two[i] : two[i]);
            due("D = " + ds[i] + ": kronecker(4194304)", x.kronecker(4194304), two[i] * two[i]);
            due("D = " + ds[i] + ": kronecker(2097152)", x.kronecker(2097152), two[i]);
        }
    }

    private static void kroneckerBelow() {
        say("and -1 if both are below 0; for n = 0: 0");
        due("-4 and -1", with(-4).kronecker(-1), -1);
        due("-4 and 1", with(-4).kronecker(1), 1);
        due("5 and -1", with(5).kronecker(-1), 1);
        due("5 and 1", with(5).kronecker(1), 1);
        due("-4 and 0", with(-4).kronecker(0), 0);
        due("5 and 0", with(5).kronecker(0), 0);
        due("-4 and -3", with(-4).kronecker(-3), 1);
        due("-4 and 3", with(-4).kronecker(3), -1);
        due("-4 and -5", with(-4).kronecker(-5), -1);
        due("5 and -3", with(5).kronecker(-3), -1);
        due("5 and 5", with(5).kronecker(5), 0);
        due("5 and 15", with(5).kronecker(15), 0);
        due("5 and 9", with(5).kronecker(9), 1);
        due("5 and 27", with(5).kronecker(27), -1);
        due("45 and 3", with(45).kronecker(3), 0);
    }

    private static void kroneckerTooGreat() {
        say("IllegalArgumentException: n is above 4194304 or below -4194304");
        FormHouse x = with(-7);
        due("kronecker(4194304)", x.kronecker(4194304), 1);
        due("kronecker(-4194304)", x.kronecker(-4194304), -1);
        // 4194301 is a prime and like 6 modulo 7, so -7 is like no square modulo it.
        due("kronecker(4194301)", x.kronecker(4194301), -1);
        for (int n : new int[] {4194305, 4194306, GREATEST, -4194305, -4194306, LEAST}) {
            dueThrow("kronecker(" + n + ")", () -> x.kronecker(n), ARGUMENT);
        }
    }

    private static void askRefuses() {
        say("IllegalArgumentException: it can't be taken");
        FormHouse x = with(-4);
        int[][] cannot = {{0, 0, 0}, {1, 1, 1}, {1, 0, 2}, {-1, 0, -1}, {1, 65536, 1}, {65536, 0, 65536},
            {LEAST, LEAST, LEAST}, {GREATEST, GREATEST, GREATEST}, {1, 0, LEAST}, {LEAST, 0, 1}, {1, LEAST, 1},
            {1, 0, 1 + TOP}, {1 + TOP, 0, 1}, {1, 2, 1}, {0, 2, 1}, {TOP, TOP, TOP}, {1, 0, -1}, {2, 2, 2}};
        for (int[] f : cannot) {
            dueThrow("ask(" + f[0] + ", " + f[1] + ", " + f[2] + ")", () -> x.ask(f[0], f[1], f[2]), ARGUMENT);
            dueForm(x, 1, 0, 1);
        }
        // A form of the D before.
        FormHouse y = with(-23, 2, 1, 3);
        y.take(-47);
        dueThrow("ask(2, 1, 3)", () -> y.ask(2, 1, 3), ARGUMENT);
    }

    private static void askTellsNoFamilies() {
        say("A form is at hand; no families are told: its class");
        FormHouse x = with(-23);
        x.solve(6);
        x.tellers(6);
        due("families ahead of ask", x.count(12), 2);
        due("ask(1, 1, 6), which is at hand", x.ask(1, 1, 6), 0);
        due("count(12)", x.count(12), 0);
        due("count(13)", x.count(13), 0);
        due("count(14), which are no families", x.count(14), 3);
        dueThrow("divisor(0)", () -> x.divisor(0), INDEX);
        dueThrow("root(0)", () -> x.root(0), INDEX);
        dueThrow("residue(12, 5)", () -> x.residue(12, 5), INDEX);
        due("ask(2, -1, 3)", x.ask(2, -1, 3), 1);
        due("ask(2, 1, 3)", x.ask(2, 1, 3), 2);
    }

    private static void form() {
        say("Coefficient what of the form at hand");
        FormHouse x = with(-23, 2, -1, 3);
        dueForm(x, 2, -1, 3);
        for (int what : new int[] {3, 4, 100, GREATEST, -1, LEAST}) {
            dueThrow("form(" + what + ")", () -> x.form(what), INDEX);
        }
    }

    private static void solveTooGreat() {
        say("IllegalArgumentException: n is 0, above 1000000 or below -1000000");
        FormHouse x = new FormHouse();
        due("solve(1000000)", x.solve(1000000), 7);
        due("solve(999999)", x.solve(999999), 0);
        due("solve(-1000000)", x.solve(-1000000), 0);
        for (int n : new int[] {0, 1000001, 1000002, GREATEST, -1000001, LEAST}) {
            dueThrow("solve(" + n + ")", () -> x.solve(n), ARGUMENT);
        }
        FormHouse above = with(5);
        due("solve(1000000), D above 0", above.solve(1000000), above.solve(-1000000));
        due("solve(1)", above.solve(1), 1);
        due("solve(-1)", above.solve(-1), 1);
    }

    private static void solveFull() {
        say("IllegalStateException: there are more than 256");
        FormHouse x = with(11809);
        due("solve(-846720)", x.solve(-846720), 256);
        due("count(12)", x.count(12), 256);
        due("one less: solve(-781456) of 4913", with(4913).solve(-781456), 255);
        due("solve(-830304) of 280612", with(280612).solve(-830304), 256);
        due("solve(628992) of 90112", with(90112).solve(628992), 256);
        int before = 0;
        for (int i = 0; i < 256; i += 3) {
            int at = x.divisor(i) * 10000000 + x.root(i);
            due("whether family " + i + " comes behind", at > before, true);
            before = at;
        }
        due("whether the last comes behind", x.divisor(255) * 10000000 + x.root(255) >= before, true);
        due("sign(523)", x.sign(523), 1);
        dueThrow("divisor(256)", () -> x.divisor(256), INDEX);
        dueThrow("root(256)", () -> x.root(256), INDEX);
        dueThrow("sign(524)", () -> x.sign(524), INDEX);
        dueThrow("bits(524)", () -> x.bits(524), INDEX);
        dueThrow("word(524, 0)", () -> x.word(524, 0), INDEX);
        dueThrow("residue(524, 1)", () -> x.residue(524, 1), INDEX);
        for (int i = 0; i < 256; i += 85) {
            FormHouse y = with(11809);
            y.solve(-846720);
            BigInteger v = number(y, 12 + 2 * i);
            BigInteger w = number(y, 13 + 2 * i);
            BigInteger c = BigInteger.valueOf((1 - 11809) / 4);
            due("what family " + i + " comes to", v.multiply(v).add(v.multiply(w)).add(c.multiply(w).multiply(w)),
                BigInteger.valueOf(-846720));
        }
    }

    private static void solveTooMany() {
        say("there are more than 256 (nothing changes)");
        // 258, 259, 260, 270 and 288 families; no case of 257 is known.
        int[][] tooMany = {{238521, -36980}, {50653, -998001}, {98865, -851760}, {6625, 633600}, {118825, -970200}};
        for (int[] row : tooMany) {
            FormHouse x = with(row[0]);
            dueThrow("D = " + row[0] + ": solve(" + row[1] + ")", () -> x.solve(row[1]), STATE);
            due("count(12)", x.count(12), 0);
            due("count(13)", x.count(13), 0);
            int many = x.solve(720);
            x.tellers(720);
            List<Integer> before = seen(x);
            dueThrow("D = " + row[0] + ": solve(" + row[1] + ")", () -> x.solve(row[1]), STATE);
            due("what is seen after it", seen(x), before);
            due("solve(720) again", x.solve(720), many);
        }
    }

    private static void solveEmpty() {
        say("All families of the form at hand for N = n are told: how many (of none, 0)");
        FormHouse x = new FormHouse();
        due("solve(25)", x.solve(25), 3);
        due("solve(3)", x.solve(3), 0);
        due("count(12)", x.count(12), 0);
        dueThrow("divisor(0)", () -> x.divisor(0), INDEX);
        dueThrow("root(0)", () -> x.root(0), INDEX);
        dueThrow("sign(12)", () -> x.sign(12), INDEX);
        dueThrow("bits(13)", () -> x.bits(13), INDEX);
        dueThrow("word(12, 0)", () -> x.word(12, 0), INDEX);
        dueThrow("residue(12, 1)", () -> x.residue(12, 1), INDEX);
        due("solve(2), fewer than before", x.solve(2), 1);
        dueThrow("divisor(1)", () -> x.divisor(1), INDEX);
        dueThrow("sign(14)", () -> x.sign(14), INDEX);
        dueNumbers(x, 12, 1, 1);
        // The same number with another form, and another number with the same family.
        x.ask(5, 4, 1);
        due("solve(2)", x.solve(2), 1);
        dueNumbers(x, 12, -1, 1);
        due("solve(8)", x.solve(8), 1);
        dueNumbers(x, 12, -2, 2);
    }

    private static void divisorAndRoot() {
        say("there is no such family");
        FormHouse x = new FormHouse();
        x.solve(25);
        for (int i : new int[] {3, 4, 255, 256, GREATEST, -1, LEAST}) {
            dueThrow("divisor(" + i + ")", () -> x.divisor(i), INDEX);
            dueThrow("root(" + i + ")", () -> x.root(i), INDEX);
        }
        x.solve(1000000);
        due("divisor(6)", x.divisor(6), 1000);
        due("root(6)", x.root(6), 0);
    }

    private static void tellersTooGreat() {
        say("The tellers of n are told: how many. IllegalArgumentException: n is 0, above 1000000 or below -1000000");
        FormHouse x = with(5);
        due("tellers(1000000)", x.tellers(1000000), 0);
        due("tellers(-1000000)", x.tellers(-1000000), 0);
        due("tellers(999999)", x.tellers(999999), 0);
        // 999961 is a prime and like 1 modulo 5.
        due("tellers(999961)", x.tellers(999961), 1);
        due("tellers(-999961)", x.tellers(-999961), 1);
        for (int n : new int[] {0, 1000001, GREATEST, -1000001, LEAST}) {
            dueThrow("tellers(" + n + ")", () -> x.tellers(n), ARGUMENT);
        }
        due("count(14)", x.count(14), 1);
        due("tellers(1000000) of -1048576", with(-1048576).tellers(1000000), 8);
    }

    private static void teller() {
        say("Teller i, in the order of their numbers");
        FormHouse x = with(-23);
        dueThrow("teller(0), none being told", () -> x.teller(0), INDEX);
        due("tellers(6)", x.tellers(6), 3);
        for (int i = 0; i < 3; i++) {
            due("teller(" + i + ")", x.teller(i), i);
        }
        for (int i : new int[] {3, 4, 2400, GREATEST, -1, LEAST}) {
            dueThrow("teller(" + i + ")", () -> x.teller(i), INDEX);
        }
        due("tellers(2), fewer than before", x.tellers(2), 2);
        due("teller(0)", x.teller(0), 1);
        due("teller(1)", x.teller(1), 2);
        dueThrow("teller(2)", () -> x.teller(2), INDEX);
        due("tellers(5), none", x.tellers(5), 0);
        dueThrow("teller(0)", () -> x.teller(0), INDEX);
    }

    private static void sign() {
        say("-1, 0, 1 as number i is below 0, 0, above");
        FormHouse x = with(40, 2, 0, -5);
        x.solve(3);
        int[] want = {1, -1, 1, -1, 1, 1, 1, 1, 1, 1, 1, 1, -1, 1, 1, 1};
        for (int i = 0; i < want.length; i++) {
            due("sign(" + i + ")", x.sign(i), want[i]);
        }
        due("sign(0) of 0", with(-3, 1, -1, 1).sign(0), 0);
        dueNoNumber(x, 16);
        dueNoNumber(x, 17);
        dueNoNumber(x, -1);
        dueNoNumber(x, LEAST);
        dueNoNumber(x, GREATEST);
        dueNoNumber(new FormHouse(), 12);
        dueNoNumber(new FormHouse(), 13);
    }

    private static void dueNoNumber(FormHouse x, int i) {
        dueThrow("sign(" + i + ")", () -> x.sign(i), INDEX);
        dueThrow("bits(" + i + ")", () -> x.bits(i), INDEX);
        dueThrow("word(" + i + ", 0)", () -> x.word(i, 0), INDEX);
        dueThrow("word(" + i + ", 512)", () -> x.word(i, 512), INDEX);
        dueThrow("residue(" + i + ", 5)", () -> x.residue(i, 5), INDEX);
        dueThrow("residue(" + i + ", -5)", () -> x.residue(i, -5), INDEX);
    }

    private static void bits() {
        say("How many bits the size of number i has, without zeros ahead");
        due("bits of 0", new FormHouse().bits(1), 0);
        due("bits of 1", new FormHouse().bits(0), 1);
        due("bits of -1", new FormHouse().bits(9), 1);
        due("bits of 2", with(-7).bits(4), 2);
        due("bits of 3", with(5).bits(4), 2);
        due("bits of 4", with(12).bits(4), 3);
        int[][] want = {{233, 31}, {244, 32}, {1012, 33}, {724, 63}, {1417, 64}, {569, 65}, {1007161, 7825}};
        for (int[] row : want) {
            FormHouse x = with(row[0]);
            due("bits(4) of " + row[0], x.bits(4), row[1]);
            BigInteger t = number(x, 4);
            BigInteger u = number(x, 5);
            due("t t - D u u of " + row[0], t.multiply(t).subtract(u.multiply(u).multiply(BigInteger.valueOf(row[0]))),
                BigInteger.valueOf(4));
            due("bits of what its words make", t.bitLength(), row[1]);
        }
    }

    private static void word() {
        say("Bits 32 k .. 32 k + 31 of its size, as an int (0 behind its highest one)");
        // t of 244 has 32 bits.
        FormHouse x = with(244);
        due("whether word(4, 0) is below 0", x.word(4, 0) < 0, true);
        due("word(4, 1)", x.word(4, 1), 0);
        FormHouse y = with(1012);
        due("word(4, 1) of 33 bits", y.word(4, 1), 1);
        due("word(4, 2)", y.word(4, 2), 0);
        FormHouse z = with(1417);
        due("whether word(4, 1) of 64 bits is below 0", z.word(4, 1) < 0, true);
        due("word(4, 2)", z.word(4, 2), 0);
        // The size of a number below 0, and words that a greater number left.
        FormHouse below = with(40, 2, 0, -5);
        due("word(1, 0) of -2", below.word(1, 0), 2);
        FormHouse again = with(1007161);
        due("whether word(4, 244) has bits", again.word(4, 244) != 0, true);
        again.take(5);
        for (int k = 1; k < 400; k++) {
            due("word(4, " + k + ") of 3", again.word(4, k), 0);
        }
        for (int i = 0; i < 12; i++) {
            due("word(" + i + ", 1)", again.word(i, 1), 0);
        }
    }

    private static void wordTooFar() {
        say("IndexOutOfBoundsException: also if k isn't 0 .. 511");
        FormHouse x = with(1007161);
        due("word(4, 511)", x.word(4, 511), 0);
        due("word(4, 245)", x.word(4, 245), 0);
        for (int i : new int[] {0, 4, 8, 11}) {
            for (int k : new int[] {512, 513, 543, 544, GREATEST, -1, LEAST}) {
                dueThrow("word(" + i + ", " + k + ")", () -> x.word(i, k), INDEX);
            }
            due("word(" + i + ", 511)", x.word(i, 511), 0);
        }
    }

    private static void residueBelow() {
        say("The number 0 .. m - 1 from which number i differs by a multiple of m, also if that is below 0");
        FormHouse x = with(40, 2, 0, -5);
        // Numbers 1 and 3 are -2 and -1.
        due("residue of -1 and 5", x.residue(3, 5), 4);
        due("residue of -1 and 1", x.residue(3, 1), 0);
        due("residue of -1 and 2", x.residue(3, 2), 1);
        due("residue of -1 and GREATEST", x.residue(3, GREATEST), GREATEST - 1);
        due("residue of -2 and 2", x.residue(1, 2), 0);
        due("residue of -2 and 1", x.residue(1, 1), 0);
        due("residue of -2 and 3", x.residue(1, 3), 1);
        due("residue of 38 and 38", x.residue(4, 38), 0);
        due("residue of 38 and 39", x.residue(4, 39), 38);
        due("residue of 38 and 37", x.residue(4, 37), 1);
        due("residue of 0 and GREATEST", new FormHouse().residue(1, GREATEST), 0);
        due("residue of 0 and 1", new FormHouse().residue(1, 1), 0);
        FormHouse great = with(1007161, -1, 1, 251790);
        for (int i : new int[] {4, 8, 9, 10, 11}) {
            FormHouse y = with(1007161, -1, 1, 251790);
            BigInteger all = number(y, i);
            for (int m : new int[] {1, 2, 3, 65536, TOP, GREATEST - 1, GREATEST}) {
                due("residue(" + i + ", " + m + ")", great.residue(i, m), all.mod(BigInteger.valueOf(m)).intValue());
            }
        }
    }

    private static void residueRefuses() {
        say("IllegalArgumentException: there is such a number, but m is below 1");
        FormHouse x = new FormHouse();
        x.solve(25);
        for (int i : new int[] {0, 4, 7, 8, 11, 12, 17}) {
            for (int m : new int[] {0, -1, -5, LEAST}) {
                dueThrow("residue(" + i + ", " + m + ")", () -> x.residue(i, m), ARGUMENT);
            }
            due("residue(" + i + ", 1)", x.residue(i, 1), 0);
        }
        dueThrow("residue(18, 0)", () -> x.residue(18, 0), INDEX);
    }
}
