import java.util.function.IntSupplier;

/** One method for each promise: ordinary inputs, the edges that the document names, and wrong inputs. */
public final class FormHousePromises {
    private static final int LEAST = Integer.MIN_VALUE;
    private static final int GREATEST = Integer.MAX_VALUE;
    private static final String INDEX = "IndexOutOfBoundsException";
    private static final String ARGUMENT = "IllegalArgumentException";
    private static final String STATE = "IllegalStateException";

    private static int wrong = 0;

    public static void main(String[] args) {
        promise1();
        promise2();
        promise3();
        promise4();
        promise5();
        promise6();
        promise7();
        promise8();
        promise9();
        promise10();
        promise11();
        promise12();
        promise13();
        promise14();
        promise15();
        promise16();
        promise17and18();
        promise19and20();
        promise21to24();
        System.out.println(wrong == 0 ? "all promises hold" : wrong + " answers break a promise");
        if (wrong != 0) {
            System.exit(1);
        }
    }

    private static void due(String call, int got, int want) {
        if (got != want) {
            wrong++;
            System.out.println(call + " answered " + got + ", due is " + want);
        }
    }

    private static void dueThrow(String call, IntSupplier made, String want) {
        String got = "nothing";
        try {
            made.getAsInt();
        } catch (RuntimeException e) {
            got = e.getClass().getSimpleName();
        }
        if (!got.equals(want)) {
            wrong++;
            System.out.println(call + " threw " + got + ", due is " + want);
        }
    }

    private static void dueCounts(String when, FormHouse x, int... counts) {
        for (int what = 0; what < counts.length; what++) {
            due(when + ": count(" + what + ")", x.count(what), counts[what]);
        }
    }

    private static FormHouse with(int d) {
        FormHouse x = new FormHouse();
        x.take(d);
        return x;
    }

    private static void dueNumber(FormHouse x, int i, long want) {
        due("sign(" + i + ")", x.sign(i), Long.signum(want));
        long size = Math.abs(want);
        due("bits(" + i + ")", x.bits(i), 64 - Long.numberOfLeadingZeros(size));
        due("word(" + i + ", 0)", x.word(i, 0), (int) size);
        due("word(" + i + ", 1)", x.word(i, 1), (int) (size >>> 32));
    }

    private static void dueNumbers(FormHouse x, int from, long... want) {
        for (int i = 0; i < want.length; i++) {
            dueNumber(x, from + i, want[i]);
        }
    }

    private static void promise1() {
        FormHouse x = new FormHouse();
        dueCounts("new", x, -4, 1, 0, 0, 1, 1, 0, 4, 0, 0, 0, 0, 0, 0, 0, -1);
        dueNumbers(x, 0, 1, 0, 0, 1, 0, 1, 0, 0, 0, -1, 1, 0);
        dueThrow("sign(12)", () -> x.sign(12), INDEX);
    }

    private static void promise2() {
        FormHouse x = new FormHouse();
        int[] bad = {0, 1, 4, 9, 2, 3, -1, -2, -5, 6, 7, 1046529, 1048576, 1048577, -1048577, -1048579, 1048580,
            -1048580, LEAST, GREATEST};
        x.take(-23);
        x.ask(2, 1, 3);
        x.solve(2);
        x.tellers(2);
        for (int d : bad) {
            dueThrow("take(" + d + ")", () -> x.take(d), ARGUMENT);
        }
        dueCounts("what throws changes nothing", x, -23, 3, 1, 0, 3, 3, 1, 2, 0, 2, 0, 0, 1, 2, 2);
        due("take(5)", x.take(5), 1);
        dueCounts("no families and tellers", x, 5, 1, 0, 0, 1, 2, 1, -1, 1, 0, 1, 0, 0, 0, 0);
        due("take(-3)", x.take(-3), 1);
        due("take(-23) again", x.take(-23), 3);
        due("the form at hand is the principal one", x.form(0), 1);
        due("take(-1048576)", x.take(-1048576), 256);
        due("take(-1048575)", x.take(-1048575), 864);
        due("take(1048573)", x.take(1048573), 1);
        due("take(-1036031), which has the most classes below 0", x.take(-1036031), 1908);
    }

    private static void promise3() {
        FormHouse x = with(40);
        dueCounts("D = 40", x, 40, 2, 1, 1, 2, 8, 1, -1, 1, 1, 3, 2, 0, 0, 0);
        due("count(15)", x.count(15), -1);
        due("count(-1)", x.count(-1), -1);
        due("count(LEAST)", x.count(LEAST), -1);
        due("count(GREATEST)", x.count(GREATEST), -1);
        due("units of -3", with(-3).count(7), 6);
        due("units of -7", with(-7).count(7), 2);
        due("D = 12 has no t t - D u u = -4", with(12).count(8), 0);
        due("D = -3 has none either", with(-3).count(8), 0);
        FormHouse most = with(1007161);
        dueCounts("the most reduced forms", most, 1007161, 1, 0, 0, 1, 4706, 1, -1, 1, 0, 3263, 2);
        x.ask(2, 0, -5);
        x.solve(3);
        x.tellers(3);
        dueCounts("D = 40, asked, solved", x, 40, 2, 1, 1, 2, 8, 1, -1, 1, 0, 3, 2, 2, 3, 1);
        x.ask(1, 0, -10);
        dueCounts("asked again, tellers stay", x, 40, 2, 1, 1, 2, 8, 1, -1, 1, 1, 3, 2, 0, 0, 1);
    }

    private static void dueNames(FormHouse x, int... want) {
        for (int i = 0; i < want.length; i++) {
            due("D = " + x.count(0) + ": name(" + i / 3 + ", " + i % 3 + ")", x.name(i / 3, i % 3), want[i]);
        }
    }

    private static void promise4() {
        dueNames(with(-23), 1, 1, 6, 2, -1, 3, 2, 1, 3);
        dueNames(with(-20), 1, 0, 5, 2, 2, 3);
        // (2, 2, 2) and the like aren't forms.
        dueNames(with(-12), 1, 0, 3);
        dueNames(with(12), -2, 2, 1, -1, 2, 2);
        dueNames(with(40), -3, 2, 3, -1, 6, 1);
        FormHouse x = with(-23);
        dueThrow("name(3, 0)", () -> x.name(3, 0), INDEX);
        dueThrow("name(-1, 0)", () -> x.name(-1, 0), INDEX);
        dueThrow("name(0, 3)", () -> x.name(0, 3), INDEX);
        dueThrow("name(0, -1)", () -> x.name(0, -1), INDEX);
        dueThrow("name(LEAST, GREATEST)", () -> x.name(LEAST, GREATEST), INDEX);
    }

    private static void promise5() {
        FormHouse x = with(-23);
        int[][] table = {{0, 1, 2}, {1, 2, 0}, {2, 0, 1}};
        for (int j = 0; j < 3; j++) {
            for (int k = 0; k < 3; k++) {
                due("product(" + j + ", " + k + ")", x.product(j, k), table[j][k]);
            }
        }
        FormHouse above = with(12);
        due("the principal class of 12", above.count(3), 0);
        due("product(1, 1)", above.product(1, 1), 0);
        due("product(0, 1)", above.product(0, 1), 1);
        dueThrow("product(3, 0)", () -> x.product(3, 0), INDEX);
        dueThrow("product(0, 3)", () -> x.product(0, 3), INDEX);
        dueThrow("product(-1, 0)", () -> x.product(-1, 0), INDEX);
        dueThrow("product(0, LEAST)", () -> x.product(0, LEAST), INDEX);
        checkLaws(-1036031);
        checkLaws(1048572);
        checkLaws(-1021020);
    }

    private static void checkLaws(int d) {
        FormHouse x = with(d);
        int many = x.count(1);
        // 14 calls a round: an object is good for 512.
        for (int i = 0; i < 36; i++) {
            int j = i * 7919 % many;
            int k = i * 104729 % many;
            int l = i * 31 % many;
            String at = "D = " + d + ", " + j + ", " + k + ", " + l;
            due("the order of factors: " + at, x.product(j, k), x.product(k, j));
            due("three factors: " + at, x.product(x.product(j, k), l), x.product(j, x.product(k, l)));
            due("the principal class: " + at, x.product(j, x.count(3)), j);
            due("the inverse: " + at, x.product(j, x.inverse(j)), x.count(3));
            due("the order: " + at, x.power(j, x.order(j)), x.count(3));
        }
    }

    private static void promise6() {
        FormHouse x = with(-23);
        due("inverse(0)", x.inverse(0), 0);
        due("inverse(1)", x.inverse(1), 2);
        due("inverse(2)", x.inverse(2), 1);
        dueThrow("inverse(3)", () -> x.inverse(3), INDEX);
        dueThrow("inverse(-1)", () -> x.inverse(-1), INDEX);
        FormHouse above = with(229);
        for (int k = 0; k < above.count(1); k++) {
            due("inverse of " + k, above.product(k, above.inverse(k)), above.count(3));
        }
    }

    private static void promise7() {
        FormHouse x = with(-47);
        due("five classes", x.count(1), 5);
        due("power(1, 0)", x.power(1, 0), 0);
        due("power(1, 1)", x.power(1, 1), 1);
        due("power(1, -1)", x.power(1, -1), x.inverse(1));
        due("power(1, 5)", x.power(1, 5), 0);
        due("power(1, 2)", x.power(1, 2), x.product(1, 1));
        // 2147483647 is 2 more than a multiple of 5, -2147483648 is 2 more than one.
        due("power(1, GREATEST)", x.power(1, GREATEST), x.power(1, 2));
        due("power(1, LEAST)", x.power(1, LEAST), x.power(1, 2));
        dueThrow("power(5, 1)", () -> x.power(5, 1), INDEX);
        dueThrow("power(-1, 0)", () -> x.power(-1, 0), INDEX);
    }

    private static void promise8() {
        FormHouse x = with(-84);
        due("order(0)", x.order(0), 1);
        due("order(3)", x.order(3), 2);
        due("order of D = 136", with(136).order(1), 4);
        due("order of D = -1036031", with(-1036031).count(4), 1908);
        dueThrow("order(4)", () -> x.order(4), INDEX);
        dueThrow("order(-1)", () -> x.order(-1), INDEX);
    }

    private static void promise9() {
        FormHouse x = with(-84);
        due("generator(0)", x.generator(0), 1);
        due("generator(1)", x.generator(1), 2);
        dueThrow("generator(2)", () -> x.generator(2), INDEX);
        dueThrow("generator(-1)", () -> x.generator(-1), INDEX);
        dueThrow("generator(0) of one class", () -> new FormHouse().generator(0), INDEX);
        // Three threes: D = -3299 has 27 classes, of order 9 and 3.
        FormHouse threes = with(-3299);
        due("classes of -3299", threes.count(1), 27);
        due("generators of -3299", threes.count(2), 2);
        due("order of generator 0", threes.order(threes.generator(0)), 9);
        due("order of generator 1", threes.order(threes.generator(1)), 3);
    }

    private static void promise10() {
        int[] ds = {-84, -3299, 12180, -1048575, -1021020};
        for (int d : ds) {
            int many = Math.min(with(d).count(1), 60);
            for (int k = 0; k < many; k++) {
                checkExponents(with(d), k);
            }
        }
        FormHouse x = with(-84);
        due("exponent(1, 0)", x.exponent(1, 0), 1);
        due("exponent(1, 1)", x.exponent(1, 1), 0);
        dueThrow("exponent(4, 0)", () -> x.exponent(4, 0), INDEX);
        dueThrow("exponent(-1, 0)", () -> x.exponent(-1, 0), INDEX);
        dueThrow("exponent(0, 2)", () -> x.exponent(0, 2), INDEX);
        dueThrow("exponent(0, -1)", () -> x.exponent(0, -1), INDEX);
    }

    private static void checkExponents(FormHouse x, int k) {
        int made = x.count(3);
        for (int i = 0; i < x.count(2); i++) {
            int e = x.exponent(k, i);
            due("an exponent in its bounds", e >= 0 && e < x.order(x.generator(i)) ? 1 : 0, 1);
            made = x.product(made, x.power(x.generator(i), e));
        }
        due("D = " + x.count(0) + ": the product for class " + k, made, k);
    }

    private static void promise11() {
        FormHouse x = with(-1021020);
        int[] primes = {3, 5, 7, 11, 13, 17};
        due("count(6)", x.count(6), 6);
        for (int i = 0; i < 6; i++) {
            due("prime(" + i + ")", x.prime(i), primes[i]);
        }
        dueThrow("prime(6)", () -> x.prime(6), INDEX);
        dueThrow("prime(-1)", () -> x.prime(-1), INDEX);
        FormHouse powers = with(-1048576);
        due("primes of -1048576", powers.count(6), 0);
        dueThrow("prime(0)", () -> powers.prime(0), INDEX);
        due("prime(0) of 1048573", with(1048573).prime(0), 1048573);
        due("primes of 9 times 8", with(72).count(6), 1);
    }

    private static void promise12() {
        FormHouse x = with(-84);
        // (1, 0, 21), (2, 2, 11), (3, 0, 7), (5, 4, 5) for 3 and 7
        int[][] due = {{1, 1}, {-1, 1}, {1, -1}, {-1, -1}};
        for (int k = 0; k < 4; k++) {
            due("character(" + k + ", 0)", x.character(k, 0), due[k][0]);
            due("character(" + k + ", 1)", x.character(k, 1), due[k][1]);
        }
        dueThrow("character(4, 0)", () -> x.character(4, 0), INDEX);
        dueThrow("character(-1, 0)", () -> x.character(-1, 0), INDEX);
        dueThrow("character(0, 2)", () -> x.character(0, 2), INDEX);
        dueThrow("character(0, -1)", () -> x.character(0, -1), INDEX);
        FormHouse above = with(12);
        due("the principal class of 12", above.character(0, 0), 1);
        due("the other", above.character(1, 0), -1);
    }

    private static void promise13() {
        FormHouse x = with(-23);
        int[] n = {0, 1, -1, 2, -2, 4, 5, 23, 46, 3, 9, 15, 4194304, -4194304};
        int[] symbols = {0, 1, -1, 1, -1, 1, -1, 0, 0, 1, 1, -1, 1, -1};
        for (int i = 0; i < n.length; i++) {
            due("kronecker(" + n[i] + ")", x.kronecker(n[i]), symbols[i]);
        }
        dueThrow("kronecker(4194305)", () -> x.kronecker(4194305), ARGUMENT);
        dueThrow("kronecker(-4194305)", () -> x.kronecker(-4194305), ARGUMENT);
        dueThrow("kronecker(LEAST)", () -> x.kronecker(LEAST), ARGUMENT);
        dueThrow("kronecker(GREATEST)", () -> x.kronecker(GREATEST), ARGUMENT);
        FormHouse five = with(5);
        due("5 and 2", five.kronecker(2), -1);
        due("5 and -2", five.kronecker(-2), -1);
        due("5 and -1", five.kronecker(-1), 1);
        due("5 and 8", five.kronecker(8), -1);
        due("8 and 2", with(8).kronecker(2), 0);
        due("-4 and 6", with(-4).kronecker(6), 0);
    }

    private static void promise14() {
        FormHouse x = with(-23);
        due("ask(2, 1, 3)", x.ask(2, 1, 3), 2);
        due("ask(3, 1, 2)", x.ask(3, 1, 2), 1);
        x.solve(3);
        int families = x.count(12);
        dueThrow("another D", () -> x.ask(1, 1, 7), ARGUMENT);
        dueThrow("a below 0", () -> x.ask(-2, 1, -3), ARGUMENT);
        dueThrow("zeros", () -> x.ask(0, 0, 0), ARGUMENT);
        dueThrow("too great", () -> x.ask(LEAST, LEAST, LEAST), ARGUMENT);
        due("what throws changes nothing", x.count(12), families);
        due("form(0)", x.form(0), 3);
        FormHouse twelve = with(-12);
        dueThrow("2 in common", () -> twelve.ask(2, 2, 2), ARGUMENT);
        FormHouse above = with(5);
        due("a below 0, D above", above.ask(-1, 1, 1), 0);
        // b b - 4 a c = 5 with a = -1, b = 2 k + 1 and c = k k + k - 1, up to 2 to the 30th and beyond.
        due("c just below 2 to the 30th", above.ask(-1, -65535, 1 - 32767 * 32768), 0);
        FormHouse eight = with(8);
        due("c = 2 to the 30th less 2", eight.ask(1, 65536, 1073741822), 0);
        FormHouse four = with(-4);
        dueThrow("c = 2 to the 30th and 1", () -> four.ask(1, 65536, 1073741825), ARGUMENT);
        FormHouse great = with(131073);
        due("a = 2 to the 30th", great.ask(1073741824, 65537, 1), great.count(3));
        great.ask(-1073741824, 65537, -1);
        due("a = -2 to the 30th", great.form(0), -1073741824);
        great.ask(-1, 65537, -1073741824);
        due("c = -2 to the 30th", great.form(2), -1073741824);
        FormHouse middle = with(4632);
        middle.ask(536870912 - 23170, 1073741824, 536870912 + 23171);
        due("b = 2 to the 30th", middle.form(1), 1073741824);
        middle.ask(536870912 - 23170, -1073741824, 536870912 + 23171);
        due("b = -2 to the 30th", middle.form(1), -1073741824);
        dueThrow("a = 2 to the 30th and 1", () -> four.ask(1073741825, 65536, 1), ARGUMENT);
        dueThrow("a below -2 to the 30th", () -> eight.ask(-1073741824 - 65535, 65538, -1), ARGUMENT);
        dueThrow("c below -2 to the 30th", () -> eight.ask(-1, 65538, -1073741824 - 65535), ARGUMENT);
        FormHouse beyond = with(4628);
        dueThrow("b = 2 to the 30th and 2", () -> beyond.ask(536847743, 1073741826, 536894084), ARGUMENT);
        dueThrow("b = -2 to the 30th less 2", () -> beyond.ask(536847743, -1073741826, 536894084), ARGUMENT);
        FormHouse wide = with(-1048576);
        dueThrow("b is too great though the sum wraps", () -> wide.ask(GREATEST, GREATEST, GREATEST), ARGUMENT);
    }

    private static void promise15() {
        FormHouse x = with(21);
        due("form(0)", x.form(0), 1);
        due("form(1)", x.form(1), 1);
        due("form(2)", x.form(2), -5);
        x.ask(-5, 9, -3);
        due("form(0)", x.form(0), -5);
        due("form(1)", x.form(1), 9);
        due("form(2)", x.form(2), -3);
        dueThrow("form(3)", () -> x.form(3), INDEX);
        dueThrow("form(-1)", () -> x.form(-1), INDEX);
    }

    private static void promise16() {
        FormHouse x = new FormHouse();
        due("solve(25)", x.solve(25), 3);
        for (int n : new int[] {0, 1000001, -1000001, LEAST, GREATEST}) {
            dueThrow("solve(" + n + ")", () -> x.solve(n), ARGUMENT);
        }
        due("count(12)", x.count(12), 3);
        due("count(13)", x.count(13), 25);
        due("solve(3)", x.solve(3), 0);
        due("count(13)", x.count(13), 3);
        due("solve(-25)", x.solve(-25), 0);
        due("solve(1000000)", x.solve(1000000), 7);
        due("solve(-1000000)", x.solve(-1000000), 0);
        due("count(13)", x.count(13), -1000000);
        FormHouse many = with(6625);
        due("solve(6)", many.solve(6), 4);
        long before = many.residue(12, 1000003) * 1000L + many.root(3);
        dueThrow("270 families", () -> many.solve(633600), STATE);
        due("count(12)", many.count(12), 4);
        due("count(13)", many.count(13), 6);
        due("the same families", (int) (many.residue(12, 1000003) * 1000L + many.root(3) - before), 0);
        FormHouse just = with(11809);
        due("256 families", just.solve(-846720), 256);
        due("the last of them has a solution", just.sign(523), 1);
        dueThrow("sign(524)", () -> just.sign(524), INDEX);
    }

    private static void promise17and18() {
        FormHouse x = new FormHouse();
        x.solve(25);
        int[] divisors = {1, 1, 5};
        int[] roots = {14, 36, 0};
        for (int i = 0; i < 3; i++) {
            due("divisor(" + i + ")", x.divisor(i), divisors[i]);
            due("root(" + i + ")", x.root(i), roots[i]);
        }
        for (int i : new int[] {3, -1, LEAST, GREATEST}) {
            dueThrow("divisor(" + i + ")", () -> x.divisor(i), INDEX);
            dueThrow("root(" + i + ")", () -> x.root(i), INDEX);
        }
        x.ask(1, 0, 1);
        dueThrow("divisor(0) after ask", () -> x.divisor(0), INDEX);
        dueThrow("root(0) after ask", () -> x.root(0), INDEX);
    }

    private static void promise19and20() {
        FormHouse x = with(-23);
        due("tellers(6)", x.tellers(6), 3);
        for (int n : new int[] {0, 1000001, -1000001, LEAST, GREATEST}) {
            dueThrow("tellers(" + n + ")", () -> x.tellers(n), ARGUMENT);
        }
        due("count(14)", x.count(14), 3);
        for (int i = 0; i < 3; i++) {
            due("teller(" + i + ")", x.teller(i), i);
        }
        dueThrow("teller(3)", () -> x.teller(3), INDEX);
        dueThrow("teller(-1)", () -> x.teller(-1), INDEX);
        due("tellers(2)", x.tellers(2), 2);
        due("teller(0)", x.teller(0), 1);
        due("teller(1)", x.teller(1), 2);
        dueThrow("teller(2)", () -> x.teller(2), INDEX);
        due("below 0 no class comes to -1", x.tellers(-1), 0);
        due("tellers(5)", x.tellers(5), 0);
        FormHouse wide = with(-1048576);
        due("tellers(1000000)", wide.tellers(1000000), 8);
        due("tellers(-1000000)", with(5).tellers(-1000000), with(5).tellers(1000000));
        FormHouse above = with(12);
        due("tellers(1)", above.tellers(1), 1);
        due("teller(0)", above.teller(0), 0);
        due("tellers(-1)", above.tellers(-1), 1);
        due("teller(0)", above.teller(0), 1);
    }

    private static void promise21to24() {
        FormHouse x = with(40);
        x.ask(2, 0, -5);
        dueNumbers(x, 0, 1, -2, 1, -1);
        x.solve(3);
        dueNumbers(x, 4, 38, 6, 6, 1, 19, 30, 12, 19, -2, 1, 2, 1);
        due("residue(12, 5)", x.residue(12, 5), 3);
        due("residue(12, 1)", x.residue(12, 1), 0);
        due("residue(4, GREATEST)", x.residue(4, GREATEST), 38);
        due("word(4, 511)", x.word(4, 511), 0);
        for (int i : new int[] {-1, 16, LEAST, GREATEST}) {
            dueThrow("sign(" + i + ")", () -> x.sign(i), INDEX);
            dueThrow("bits(" + i + ")", () -> x.bits(i), INDEX);
            dueThrow("word(" + i + ", 0)", () -> x.word(i, 0), INDEX);
            dueThrow("residue(" + i + ", 0)", () -> x.residue(i, 0), INDEX);
        }
        dueThrow("word(0, 512)", () -> x.word(0, 512), INDEX);
        dueThrow("word(0, -1)", () -> x.word(0, -1), INDEX);
        dueThrow("residue(0, 0)", () -> x.residue(0, 0), ARGUMENT);
        dueThrow("residue(0, -5)", () -> x.residue(0, -5), ARGUMENT);
        FormHouse great = with(1007161);
        due("the unit with the most bits", great.bits(4), 7825);
        due("its t", great.residue(4, 1000003), 425106);
        due("no more words", great.word(4, 245), 0);
        FormHouse three = with(-3);
        dueNumbers(three, 4, 1, 1, 0, 0, 0, -1, 1, 1);
        FormHouse seven = with(-7);
        dueNumbers(seven, 4, 2, 0, 0, 0, 1, 0, 0, 1);
        checkMinusOne(great);
    }

    /** t t - D u u = -4, and 4, modulo a prime. */
    private static void checkMinusOne(FormHouse x) {
        long m = 2147483647;
        for (int i = 4; i < 8; i += 2) {
            long t = x.residue(i, (int) m);
            long u = x.residue(i + 1, (int) m);
            long value = Math.floorMod(t * t % m - x.count(0) * (u * u % m) % m, m);
            due("what " + i + " comes to", (int) value, (int) (i == 4 ? 4 : m - 4));
        }
    }
}
