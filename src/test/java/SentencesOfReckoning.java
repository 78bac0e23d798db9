import java.math.BigInteger;

/** The sentences of promises 9 to 28: sums, products, quotients, residues, powers, roots. */
public final class SentencesOfReckoning extends Sentences {
    private static final String SIGN = "Returns the sign of what is put";
    private static final String NO_REGISTER = "Throws `IndexOutOfBoundsException` if there is no such register";
    private static final String FOR_ANY = NO_REGISTER + ", for any";
    private static final String FOR_EITHER = NO_REGISTER + ", for either";
    private static final String TOO_MANY = "Throws `IllegalStateException` if it has too many digits";
    private static final Class<?> STATE = IllegalStateException.class;
    private static final Class<?> ARITHMETIC = ArithmeticException.class;
    private static final Class<?> ARGUMENT = IllegalArgumentException.class;

    private interface Two {
        BigInteger of(BigInteger a, BigInteger b);
    }

    private interface One {
        BigInteger of(BigInteger a);
    }

    /** Each pair of edges whose result is there and is not too long, put from the registers 0 and 1 into 2. */
    private static void putsForPairs(Two due, Call call) {
        for (BigInteger a : EDGES) {
            for (BigInteger b : EDGES) {
                BigInteger want = due.of(a, b);
                if (want != null && isShort(want)) {
                    puts(want, with(a, b), 2, call);
                }
            }
        }
    }

    private static void putsForEach(One due, Call call) {
        for (BigInteger a : EDGES) {
            BigInteger want = due.of(a);
            if (want != null) {
                puts(want, with(a), 2, call);
            }
        }
    }

    /** The signs -1, 0 and 1 are told of what the call puts for these first numbers. */
    private static void signs(Object below, Object zero, Object above, Object other, Call call) {
        answers(-1, with(below, other), call);
        answers(0, with(zero, other), call);
        answers(1, with(above, other), call);
    }

    private static void add() {
        promise(9);
        says("Puts the sum of two numbers", () -> {
            changes(1, with(5, 6, -9), 2, 11, x -> x.add(2, 0, 1));
            changes(-1, with(LEAST, two(498)), 1, LEAST.add(two(498)), x -> x.add(1, 0, 1));
            putsForPairs(BigInteger::add, x -> x.add(2, 0, 1));
        });
        says(SIGN, () -> signs(-8, -7, -6, 7, x -> x.add(0, 0, 1)));
        says(FOR_ANY, () -> {
            registers(with(3), (x, r) -> x.add(r, 0, 0), (x, r) -> x.add(0, r, 0), (x, r) -> x.add(0, 0, r));
            noRegisters(with(MOST, 1), (x, r) -> x.add(r, 0, 1), (x, r) -> x.add(2, r, 0), (x, r) -> x.add(2, 0, r));
        });
        says(TOO_MANY, () -> {
            changes(1, with(MOST.subtract(ONE), 1), 2, MOST, x -> x.add(2, 0, 1));
            changes(-1, with(LEAST.add(ONE), -1), 2, LEAST, x -> x.add(2, 0, 1));
            refuses(STATE, with(MOST, 1), x -> x.add(2, 0, 1));
            refuses(STATE, with(LEAST, -1), x -> x.add(2, 1, 0));
            refuses(STATE, with(MOST), x -> x.add(0, 0, 0));
            refuses(STATE, with(ten(149).multiply(big(5))), x -> x.add(0, 0, 0));
            changes(1, with(ten(149).multiply(big(5)).subtract(ONE)), 0, LIMIT.subtract(big(2)), x -> x.add(0, 0, 0));
        });
    }

    private static void subtract() {
        promise(10);
        says("Puts a number less another one", () -> {
            changes(-1, with(5, 6, 9), 2, -1, x -> x.subtract(2, 0, 1));
            changes(1, with(MOST, two(498)), 1, MOST.subtract(two(498)), x -> x.subtract(1, 0, 1));
            putsForPairs(BigInteger::subtract, x -> x.subtract(2, 0, 1));
        });
        says(SIGN, () -> signs(6, 7, 8, 7, x -> x.subtract(0, 0, 1)));
        says(FOR_ANY, () -> {
            registers(with(3), (x, r) -> x.subtract(r, 0, 0), (x, r) -> x.subtract(0, r, 0), (x, r) -> x.subtract(0, 0, r));
            noRegisters(with(LEAST, 1), (x, r) -> x.subtract(r, 0, 1), (x, r) -> x.subtract(2, r, 0),
                    (x, r) -> x.subtract(2, 0, r));
        });
        says(TOO_MANY, () -> {
            changes(1, with(MOST.subtract(ONE), -1), 2, MOST, x -> x.subtract(2, 0, 1));
            changes(-1, with(LEAST, 0), 2, LEAST, x -> x.subtract(2, 0, 1));
            changes(-1, with(MOST, 0), 2, LEAST, x -> x.subtract(2, 1, 0));
            refuses(STATE, with(MOST, -1), x -> x.subtract(2, 0, 1));
            refuses(STATE, with(LEAST, 1), x -> x.subtract(2, 0, 1));
            refuses(STATE, with(MOST, -1), x -> x.subtract(0, 1, 0));
            refuses(STATE, with(MOST, LEAST), x -> x.subtract(1, 0, 1));
        });
    }

    private static void multiply() {
        promise(11);
        says("Puts the product of two numbers", () -> {
            changes(-1, with(5, -6, 9), 2, -30, x -> x.multiply(2, 0, 1));
            changes(1, with(ten(75).subtract(ONE)), 0, ten(75).subtract(ONE).pow(2), x -> x.multiply(0, 0, 0));
            putsForPairs(BigInteger::multiply, x -> x.multiply(2, 0, 1));
        });
        says(SIGN, () -> signs(7, 0, -7, -1, x -> x.multiply(0, 0, 1)));
        says(FOR_ANY, () -> {
            registers(with(3), (x, r) -> x.multiply(r, 0, 0), (x, r) -> x.multiply(0, r, 0), (x, r) -> x.multiply(0, 0, r));
            noRegisters(with(MOST), (x, r) -> x.multiply(r, 0, 0), (x, r) -> x.multiply(2, r, 0), (x, r) -> x.multiply(2, 0, r));
        });
        says(TOO_MANY, () -> {
            BigInteger third = MOST.divide(big(3));
            changes(1, with(third, 3), 2, MOST, x -> x.multiply(2, 0, 1));
            changes(-1, with(third, -3), 2, LEAST, x -> x.multiply(2, 0, 1));
            changes(1, with(ten(74), ten(75)), 2, ten(149), x -> x.multiply(2, 0, 1));
            refuses(STATE, with(ten(75)), x -> x.multiply(2, 0, 0));
            refuses(STATE, with(ten(75), -1).then(x -> x.multiply(1, 0, 1)), x -> x.multiply(2, 0, 1));
            refuses(STATE, with(ten(149), 10), x -> x.multiply(1, 0, 1));
            refuses(STATE, with(third.add(ONE), 3), x -> x.multiply(2, 0, 1));
            refuses(STATE, with(MOST, LEAST), x -> x.multiply(2, 0, 1));
        });
    }

    /** Where a quotient's guessed group of 30 bits is too great. */
    private static void putsForHardPairs(Two due, Call call) {
        int[] edges = {0, 1, (1 << 29) - 1, 1 << 29, (1 << 30) - 2, (1 << 30) - 1};
        for (int i = 6; i < 6 * 6 * 6 * 6 * 6 * 6; i += 7) {
            BigInteger[] parts = new BigInteger[6];
            int rest = i;
            for (int k = 0; k < 6; k++) {
                parts[k] = big(edges[rest % 6]);
                rest /= 6;
            }
            BigInteger a = parts[0].shiftLeft(90).add(parts[1].shiftLeft(60)).add(parts[2].shiftLeft(30)).add(parts[3]);
            BigInteger b = parts[4].shiftLeft(60).add(parts[5].shiftLeft(30)).add(parts[0]);
            if (b.signum() != 0) {
                puts(due.of(a, b), bare(a, b), 2, call);
            }
        }
    }

    private static BigInteger quotient(BigInteger a, BigInteger b) {
        return b.signum() == 0 ? null : a.divide(b);
    }

    private static BigInteger rest(BigInteger a, BigInteger b) {
        return b.signum() == 0 ? null : a.remainder(b);
    }

    private static BigInteger residue(BigInteger a, BigInteger m) {
        return m.signum() <= 0 ? null : a.mod(m);
    }

    private static void divide() {
        promise(12);
        says("Puts the quotient of two numbers", () -> {
            changes(-1, with(17, -5), 2, -3, x -> x.divide(2, 0, 1));
            changes(1, with(MOST, two(200)), 0, MOST.divide(two(200)), x -> x.divide(0, 0, 1));
            changes(1, with(Long.MIN_VALUE, -1), 0, two(63), x -> x.divide(0, 0, 1));
            putsForPairs(SentencesOfReckoning::quotient, x -> x.divide(2, 0, 1));
            putsForHardPairs(BigInteger::divide, x -> x.divide(2, 0, 1));
        });
        says(SIGN, () -> {
            signs(-5, -4, 5, 5, x -> x.divide(0, 0, 1));
            signs(5, 4, -5, -5, x -> x.divide(0, 0, 1));
        });
        says(FOR_ANY, () -> {
            registers(with(3), (x, r) -> x.divide(r, 0, 0), (x, r) -> x.divide(0, r, 0));
            registers(with(3).then(x -> x.set(15, 2)), (x, r) -> x.divide(1, 0, r));
            noRegisters(with(3), (x, r) -> x.divide(r, 0, 9), (x, r) -> x.divide(0, r, 9), (x, r) -> x.divide(9, 9, r));
        });
        says("Throws `ArithmeticException` if the second one is 0", () -> {
            refuses(ARITHMETIC, with(3), x -> x.divide(2, 0, 9));
            refuses(ARITHMETIC, with(0, 0), x -> x.divide(2, 0, 1));
            refuses(ARITHMETIC, with(MOST, MOST).then(x -> x.subtract(1, 0, 1)), x -> x.divide(1, 0, 1));
            answers(1, with(3, 1), x -> x.divide(2, 0, 1));
            answers(-1, with(3, -1), x -> x.divide(2, 0, 1));
        });
    }

    private static void remainder() {
        promise(13);
        says("Puts the remainder of two numbers", () -> {
            changes(1, with(17, -5), 2, 2, x -> x.remainder(2, 0, 1));
            changes(-1, with(LEAST, two(200)), 0, LEAST.remainder(two(200)), x -> x.remainder(0, 0, 1));
            changes(0, with(Long.MIN_VALUE, -1), 0, 0, x -> x.remainder(0, 0, 1));
            putsForPairs(SentencesOfReckoning::rest, x -> x.remainder(2, 0, 1));
            putsForHardPairs(BigInteger::remainder, x -> x.remainder(2, 0, 1));
        });
        says(SIGN, () -> {
            signs(-4, -5, 4, 5, x -> x.remainder(0, 0, 1));
            signs(-6, 5, 6, -5, x -> x.remainder(0, 0, 1));
        });
        says(FOR_ANY, () -> {
            registers(with(3), (x, r) -> x.remainder(r, 0, 0), (x, r) -> x.remainder(0, r, 0));
            registers(with(3).then(x -> x.set(15, 2)), (x, r) -> x.remainder(1, 0, r));
            noRegisters(with(3), (x, r) -> x.remainder(r, 0, 9), (x, r) -> x.remainder(0, r, 9), (x, r) -> x.remainder(9, 9, r));
        });
        says("Throws `ArithmeticException` if the second one is 0", () -> {
            refuses(ARITHMETIC, with(3), x -> x.remainder(2, 0, 9));
            refuses(ARITHMETIC, with(0, 0), x -> x.remainder(2, 0, 1));
            refuses(ARITHMETIC, with(MOST, MOST).then(x -> x.subtract(1, 0, 1)), x -> x.remainder(1, 0, 1));
            answers(0, with(3, 1), x -> x.remainder(2, 0, 1));
            answers(0, with(3, -1), x -> x.remainder(2, 0, 1));
        });
    }

    /** Puts both by one change, and takes both back by one undo. */
    private static void putsBoth(Object a, Object b, int register, int other) {
        BigInteger[] want = big(a).divideAndRemainder(big(b));
        Call call = x -> x.divideBoth(register, other, 0, 1);
        putsQuotient(want, with(a, b), register, other, call);
        answers(3, with(a, b).then(call), x -> x.changes());
        answers(2, with(a, b).then(call), x -> x.undo());
        same(with(a, b).then(call), x -> x.undo(), with(a, b), x -> 0);
    }

    private static void putsQuotient(BigInteger[] want, Start start, int register, int other, Call call) {
        Biglaws x = start.make();
        due("the signs", 3 * want[0].signum() + want[1].signum(), outcome(x, call));
        due("the quotient", want[0], number(x, register));
        due("the remainder", want[1], number(x, other));
    }

    private static void divideBoth() {
        promise(14);
        says("Puts both the quotient and the remainder of two numbers, as one change", () -> {
            int[] registers = {0, 1, 2, 15};
            for (int register : registers) {
                for (int other : registers) {
                    if (register != other) {
                        putsBoth(17, 5, register, other);
                        putsBoth(LEAST, two(200), register, other);
                    }
                }
            }
            Start twenty = with(17, 5);
            for (int i = 0; i < 18; i++) {
                twenty.then(x -> x.set(3, 3));
            }
            answers(20, twenty.then(x -> x.divideBoth(4, 5, 0, 1)), x -> x.changes());
            answers(19, twenty, x -> x.undo());
        });
        says("Returns 3 times the sign of the quotient, plus the sign of the remainder", () -> {
            for (BigInteger a : EDGES) {
                for (BigInteger b : EDGES) {
                    if (b.signum() != 0) {
                        putsQuotient(a.divideAndRemainder(b), with(a, b), 2, 3, x -> x.divideBoth(2, 3, 0, 1));
                    }
                }
            }
            int[][] signs = {{6, 3, 3}, {6, -3, -3}, {7, 3, 4}, {-7, 3, -4}, {7, -3, -2}, {-7, -3, 2}, {2, 3, 1}, {-2, 3, -1}, {0, 3, 0}};
            for (int[] each : signs) {
                answers(each[2], with(each[0], each[1]), x -> x.divideBoth(2, 3, 0, 1));
            }
        });
        says(FOR_ANY, () -> {
            registers(with(3, 4), (x, r) -> x.divideBoth(r, 1, 0, 1), (x, r) -> x.divideBoth(1, r, 0, 1),
                    (x, r) -> x.divideBoth(2, 1, r, 1));
            registers(with(3).then(x -> x.set(15, 2)), (x, r) -> x.divideBoth(1, 2, 1, r));
            noRegisters(with(3, 4), (x, r) -> x.divideBoth(r, r, 0, 1), (x, r) -> x.divideBoth(r, 1, 0, 9),
                    (x, r) -> x.divideBoth(1, r, 0, 9), (x, r) -> x.divideBoth(2, 2, r, 9), (x, r) -> x.divideBoth(2, 2, 0, r),
                    (x, r) -> x.divideBoth(r, r, r, r));
        });
        says("Throws `IllegalArgumentException` if both are put into the same register", () -> {
            for (int each = 0; each < REGISTERS; each++) {
                int register = each;
                refuses(ARGUMENT, with(3, 4), x -> x.divideBoth(register, register, 0, 1));
                refuses(ARGUMENT, with(3, 4), x -> x.divideBoth(register, register, 0, 9));
            }
        });
        says("Throws `ArithmeticException` if the second number is 0", () -> {
            refuses(ARITHMETIC, with(3), x -> x.divideBoth(2, 3, 0, 9));
            refuses(ARITHMETIC, with(3), x -> x.divideBoth(0, 9, 0, 9));
            refuses(ARITHMETIC, with(0, 0), x -> x.divideBoth(0, 1, 0, 1));
            answers(3, with(3, 1), x -> x.divideBoth(2, 3, 0, 1));
            answers(-3, with(3, -1), x -> x.divideBoth(2, 3, 0, 1));
        });
    }

    private static void mod() {
        promise(15);
        says("Puts that of the numbers 0 to m less 1 that differs from a number by a multiple of m", () -> {
            changes(1, with(-17, 5), 2, 3, x -> x.mod(2, 0, 1));
            changes(0, with(-17, 1), 0, 0, x -> x.mod(0, 0, 1));
            changes(1, with(LEAST, MOST.subtract(ONE)), 1, MOST.subtract(big(2)), x -> x.mod(1, 0, 1));
            for (int number = -12; number <= 12; number++) {
                puts(Math.floorMod(number, 6), with(number, 6), 2, x -> x.mod(2, 0, 1));
            }
            putsForPairs(SentencesOfReckoning::residue, x -> x.mod(2, 0, 1));
            putsForHardPairs((a, b) -> a.mod(b), x -> x.mod(2, 0, 1));
        });
        says(SIGN, () -> {
            answers(0, with(-10, 5), x -> x.mod(0, 0, 1));
            answers(1, with(-9, 5), x -> x.mod(0, 0, 1));
            answers(1, with(4, 5), x -> x.mod(0, 0, 1));
            answers(0, with(5, 5), x -> x.mod(0, 0, 1));
        });
        says(FOR_ANY, () -> {
            registers(with(3), (x, r) -> x.mod(r, 0, 0), (x, r) -> x.mod(0, r, 0));
            registers(with(3).then(x -> x.set(15, 2)), (x, r) -> x.mod(1, 0, r));
            noRegisters(with(3, -4), (x, r) -> x.mod(r, 0, 9), (x, r) -> x.mod(0, r, 1), (x, r) -> x.mod(9, 9, r));
        });
        says("Throws `ArithmeticException` if m is not above 0", () -> {
            answers(0, with(3, 1), x -> x.mod(2, 0, 1));
            for (Object m : new Object[] {0, -1, -5, Long.MIN_VALUE, LEAST}) {
                refuses(ARITHMETIC, with(3, m), x -> x.mod(2, 0, 1));
                refuses(ARITHMETIC, with(0, m), x -> x.mod(1, 0, 1));
            }
        });
    }

    private static void negate() {
        promise(16);
        says("Puts 0 less a number", () -> {
            changes(1, with(-17), 2, 17, x -> x.negate(2, 0));
            changes(-1, with(MOST), 0, LEAST, x -> x.negate(0, 0));
            changes(0, with(0, 4), 1, 0, x -> x.negate(1, 0));
            putsForEach(BigInteger::negate, x -> x.negate(2, 0));
        });
        says(SIGN, () -> signs(1, 0, -1, 5, x -> x.negate(0, 0)));
        says(FOR_EITHER, () -> registers(with(3), (x, r) -> x.negate(r, 0), (x, r) -> x.negate(0, r), (x, r) -> x.negate(r, r)));
    }

    private static void abs() {
        promise(17);
        says("Puts a number without its sign", () -> {
            changes(1, with(-17), 2, 17, x -> x.abs(2, 0));
            changes(1, with(LEAST), 0, MOST, x -> x.abs(0, 0));
            changes(0, with(0, 4), 1, 0, x -> x.abs(1, 0));
            changes(1, with(Long.MIN_VALUE), 1, two(63), x -> x.abs(1, 0));
            putsForEach(BigInteger::abs, x -> x.abs(2, 0));
        });
        says(SIGN, () -> {
            answers(1, with(-1), x -> x.abs(0, 0));
            answers(0, with(0), x -> x.abs(0, 0));
            answers(1, with(1), x -> x.abs(0, 0));
        });
        says(FOR_EITHER, () -> registers(with(3), (x, r) -> x.abs(r, 0), (x, r) -> x.abs(0, r), (x, r) -> x.abs(r, r)));
    }

    private static void pow() {
        promise(18);
        says("Puts a power of a number", () -> {
            changes(-1, with(-3), 2, -243, x -> x.pow(2, 0, 5));
            changes(1, with(ten(75).subtract(ONE)), 0, ten(75).subtract(ONE).pow(2), x -> x.pow(0, 0, 2));
            changes(0, with(0, 4), 1, 0, x -> x.pow(1, 0, MAX));
            for (BigInteger a : EDGES) {
                for (int n = 0; n <= 12; n++) {
                    int times = n;
                    if (isShort(a.pow(n))) {
                        puts(a.pow(n), with(a), 2, x -> x.pow(2, 0, times));
                    }
                }
            }
        });
        says(SIGN, () -> {
            signs(-3, 0, 3, 5, x -> x.pow(0, 0, 3));
            answers(1, with(-3), x -> x.pow(0, 0, 2));
            answers(-1, with(-1), x -> x.pow(0, 0, MAX));
            answers(1, with(-1), x -> x.pow(0, 0, MAX - 1));
            answers(1, with(0), x -> x.pow(0, 0, 0));
        });
        says(FOR_EITHER, () -> {
            registers(with(3), (x, r) -> x.pow(r, 0, 2), (x, r) -> x.pow(0, r, 2));
            noRegisters(with(3), (x, r) -> x.pow(r, 0, -1), (x, r) -> x.pow(0, r, MIN), (x, r) -> x.pow(r, 0, MAX));
        });
        says("Throws `ArithmeticException` if n is below 0", () -> {
            for (Object number : new Object[] {0, 1, -1, 3, MOST}) {
                answers(1, with(number), x -> x.pow(2, 0, 0));
                refuses(ARITHMETIC, with(number), (x, n) -> x.pow(2, 0, n), -1, -2, -150, MIN, MIN + 1);
            }
        });
        says(TOO_MANY, SentencesOfReckoning::powersOfManyDigits);
    }

    private static void powersOfManyDigits() {
        for (int each : new int[] {2, 3, 7, 10, 999, MAX}) {
            BigInteger number = big(each);
            int most = 1;
            while (isShort(number.pow(most + 1))) {
                most++;
            }
            int times = most;
            puts(number.pow(most), with(number), 2, x -> x.pow(2, 0, times));
            puts(number.negate().pow(most), with(number.negate()), 2, x -> x.pow(2, 0, times));
            refuses(STATE, with(number), (x, n) -> x.pow(2, 0, n), times + 1, times + 2, 600, 1000, 65536, 1 << 30, MAX - 1, MAX);
            refuses(STATE, with(number.negate()), (x, n) -> x.pow(0, 0, n), times + 1, times + 2, MAX - 1, MAX);
        }
        changes(1, with(2), 0, two(498), x -> x.pow(0, 0, 498));
        changes(-1, with(-10), 0, ten(149).negate(), x -> x.pow(0, 0, 149));
        changes(1, with(MOST), 0, MOST, x -> x.pow(0, 0, 1));
        changes(-1, with(LEAST), 0, LEAST, x -> x.pow(0, 0, 1));
        refuses(STATE, with(MOST), (x, n) -> x.pow(0, 0, n), 2, 3, MAX);
        refuses(STATE, with(ten(75)), (x, n) -> x.pow(1, 0, n), 2, 3, MAX);
        for (int n : new int[] {1, 2, 3, 498, 499, 500, 65536, MAX - 1, MAX}) {
            puts(0, with(0, 0, 7), 2, x -> x.pow(2, 0, n));
            puts(1, with(1), 2, x -> x.pow(2, 0, n));
            puts(n % 2 == 0 ? 1 : -1, with(-1), 2, x -> x.pow(2, 0, n));
        }
    }

    private static void putsModPow(Object a, int n, Object m) {
        puts(big(a).modPow(big(n), big(m)), with(a, m), 2, x -> x.modPow(2, 0, n, 1));
    }

    private static void modPow() {
        promise(19);
        BigInteger prime = two(127).subtract(ONE);
        int[] powers = {0, 1, 2, 3, 31, 32, 100, 65536, 1 << 30, MAX - 1, MAX};
        says("Puts that of the numbers 0 to m less 1 that differs from a power of a number by a multiple of m", () -> {
            changes(1, with(3, 7), 2, 4, x -> x.modPow(2, 0, 100, 1));
            changes(0, with(3, 1), 1, 0, x -> x.modPow(1, 0, 0, 1));
            changes(1, with(0, 7), 0, 1, x -> x.modPow(0, 0, 0, 1));
            for (int n : powers) {
                for (Object m : new Object[] {1, 2, 7, two(30), two(64).subtract(ONE), prime, MOST}) {
                    for (Object a : new Object[] {0, 1, -1, 2, -3, 7, two(30), prime, MOST.subtract(ONE), MOST, LEAST}) {
                        putsModPow(a, n, m);
                    }
                }
            }
        });
        says("for n below 0, the power by n without its sign of the inverse, as by inverse()", () -> {
            changes(1, with(3, 7), 2, 4, x -> x.modPow(2, 0, -2, 1));
            for (int n : new int[] {-1, -2, -3, -31, -32, -100, -65536, MIN + 1, MIN}) {
                for (Object a : new Object[] {1, -1, 2, -3, MOST.subtract(ONE)}) {
                    putsModPow(a, n, 7);
                    putsModPow(a, n, prime);
                    putsModPow(a, n, 1);
                }
                putsModPow(0, n, 1);
                putsModPow(MOST.subtract(ONE), n, MOST);
            }
            same(with(-3, prime), x -> x.modPow(2, 0, -1, 1), with(-3, prime), x -> x.inverse(2, 0, 1));
        });
        says(SIGN, () -> {
            answers(1, with(3, 7), x -> x.modPow(0, 0, 5, 1));
            answers(1, with(-3, 7), x -> x.modPow(0, 0, 5, 1));
            answers(0, with(14, 7), x -> x.modPow(0, 0, 5, 1));
            answers(0, with(3, 1), x -> x.modPow(0, 0, -5, 1));
        });
        says(FOR_ANY, () -> {
            registers(with(3), (x, r) -> x.modPow(r, 0, 2, 0), (x, r) -> x.modPow(0, r, 2, 0));
            registers(with(3).then(x -> x.set(15, 2)), (x, r) -> x.modPow(1, 0, 2, r));
            noRegisters(with(7, 14, -4), (x, r) -> x.modPow(r, 0, -1, 1), (x, r) -> x.modPow(0, r, -1, 9),
                    (x, r) -> x.modPow(0, r, 2, 2), (x, r) -> x.modPow(9, 9, -1, r));
        });
        says("Throws `ArithmeticException` if m is not above 0, or n is below 0 and the number has no inverse", () -> {
            for (Object m : new Object[] {0, -1, -7, LEAST}) {
                refuses(ARITHMETIC, with(3, m), (x, n) -> x.modPow(2, 0, n, 1), 0, 1, 5, MAX, -1, MIN);
            }
            Object[][] pairs = {{7, 14}, {0, 2}, {-6, 4}, {MOST, 9}, {two(30), two(90)}};
            for (Object[] each : pairs) {
                refuses(ARITHMETIC, with(each), (x, n) -> x.modPow(2, 0, n, 1), -1, -2, MIN);
                for (int n : powers) {
                    putsModPow(each[0], n, each[1]);
                }
            }
        });
    }

    private static void inverse() {
        promise(20);
        String isThere = "There is one just if the greatest common divisor of the number and m is 1";
        says("Puts the inverse of a number: that of the numbers 0 to m less 1 whose product with it differs from 1 by a multiple "
                + "of m", () -> {
            changes(1, with(3, 7), 2, 5, x -> x.inverse(2, 0, 1));
            changes(1, with(-4, 7), 0, 5, x -> x.inverse(0, 0, 1));
            changes(0, with(0, 1), 1, 0, x -> x.inverse(1, 0, 1));
            changes(1, with(MOST.subtract(ONE), MOST), 1, MOST.subtract(ONE), x -> x.inverse(1, 0, 1));
            putsForPairs((a, m) -> m.signum() > 0 && a.gcd(m).equals(ONE) ? a.modInverse(m) : null, x -> x.inverse(2, 0, 1));
        });
        says(isThere, () -> {
            for (int number = -25; number <= 25; number++) {
                for (int m = 1; m <= 25; m++) {
                    int a = number;
                    boolean isOne = big(a).gcd(big(m)).equals(ONE);
                    Object want = isOne ? big(a).modInverse(big(m)).signum() : ARITHMETIC.getName();
                    answers(want, with(a, m), x -> x.inverse(2, 0, 1));
                }
            }
        });
        says(SIGN, () -> {
            answers(1, with(3, 7), x -> x.inverse(0, 0, 1));
            answers(1, with(-3, 7), x -> x.inverse(0, 0, 1));
            answers(0, with(3, 1), x -> x.inverse(0, 0, 1));
        });
        says(FOR_ANY, () -> {
            registers(with(3, 7), (x, r) -> x.inverse(r, 0, 1));
            registers(with(3, 7).then(x -> x.set(15, 1)), (x, r) -> x.inverse(2, r, 1), (x, r) -> x.inverse(2, 1, r));
            noRegisters(with(7, 14, -4), (x, r) -> x.inverse(r, 0, 1), (x, r) -> x.inverse(0, r, 9), (x, r) -> x.inverse(0, r, 2),
                    (x, r) -> x.inverse(9, 9, r));
        });
        says("Throws `ArithmeticException` if m is not above 0, or there is none", () -> {
            for (Object m : new Object[] {0, -1, -7, LEAST}) {
                refuses(ARITHMETIC, with(3, m), x -> x.inverse(2, 0, 1));
                refuses(ARITHMETIC, with(1, m), x -> x.inverse(0, 0, 1));
            }
            Object[][] pairs = {{7, 14}, {0, 2}, {-6, 4}, {MOST, 9}, {two(30), two(90)}, {MOST, MOST}};
            for (Object[] each : pairs) {
                refuses(ARITHMETIC, with(each), x -> x.inverse(2, 0, 1));
            }
        });
    }

    private static void gcd() {
        promise(21);
        says("Puts the greatest common divisor of two numbers, which is not below 0", () -> {
            changes(1, with(-12, 18), 2, 6, x -> x.gcd(2, 0, 1));
            changes(1, with(MOST, LEAST), 1, MOST, x -> x.gcd(1, 0, 1));
            changes(1, with(0, LEAST), 0, MOST, x -> x.gcd(0, 0, 1));
            changes(1, with(Long.MIN_VALUE, 0), 1, two(63), x -> x.gcd(1, 0, 1));
            putsForPairs(BigInteger::gcd, x -> x.gcd(2, 0, 1));
        });
        says("0 for 0 and 0", () -> {
            changes(0, with(0, 0, 7), 2, 0, x -> x.gcd(2, 0, 1));
            changes(0, with(0), 0, 0, x -> x.gcd(0, 0, 0));
        });
        says(SIGN, () -> {
            answers(1, with(-12, -18), x -> x.gcd(0, 0, 1));
            answers(0, with(0, 0), x -> x.gcd(0, 0, 1));
            answers(1, with(0, -1), x -> x.gcd(0, 0, 1));
        });
        says(FOR_ANY, () -> registers(with(3), (x, r) -> x.gcd(r, 0, 0), (x, r) -> x.gcd(0, r, 0), (x, r) -> x.gcd(0, 0, r)));
    }

    private static void minAndMax() {
        promise(22);
        says("Puts the less one of two numbers", () -> {
            changes(-1, with(5, -6, 3), 2, -6, x -> x.min(2, 0, 1));
            changes(1, with(5, 5, 3), 2, 5, x -> x.min(2, 0, 1));
            changes(-1, with(MOST, LEAST), 0, LEAST, x -> x.min(0, 0, 1));
            putsForPairs(BigInteger::min, x -> x.min(2, 0, 1));
        });
        says(SIGN, () -> signs(-6, 0, 5, 6, x -> x.min(0, 0, 1)));
        says(FOR_ANY, () -> registers(with(3), (x, r) -> x.min(r, 0, 0), (x, r) -> x.min(0, r, 0), (x, r) -> x.min(0, 0, r)));
        promise(23);
        says("Puts the greater one of two numbers", () -> {
            changes(1, with(5, -6, 3), 2, 5, x -> x.max(2, 0, 1));
            changes(-1, with(-5, -5, 3), 2, -5, x -> x.max(2, 0, 1));
            changes(1, with(MOST, LEAST), 1, MOST, x -> x.max(1, 0, 1));
            putsForPairs(BigInteger::max, x -> x.max(2, 0, 1));
        });
        says(SIGN, () -> signs(-5, 0, 5, -6, x -> x.max(0, 0, 1)));
        says(FOR_ANY, () -> registers(with(3), (x, r) -> x.max(r, 0, 0), (x, r) -> x.max(0, r, 0), (x, r) -> x.max(0, 0, r)));
    }

    private static void root() {
        promise(24);
        says("Puts the greatest number whose product with itself is not greater than a number", () -> {
            changes(1, with(17), 2, 4, x -> x.root(2, 0));
            changes(1, with(MOST), 0, ten(75).subtract(ONE), x -> x.root(0, 0));
            changes(0, with(0, 4), 1, 0, x -> x.root(1, 0));
            for (int i = 0; i < 300; i++) {
                puts(big(i).sqrt(), with(i), 2, x -> x.root(2, 0));
            }
            putsForEach(a -> a.signum() < 0 ? null : a.sqrt(), x -> x.root(2, 0));
            for (int n = 1; n < 249; n += 7) {
                BigInteger root = two(n).add(big(n - 120));
                puts(root.abs(), with(root.pow(2)), 2, x -> x.root(2, 0));
                puts(root.pow(2).subtract(ONE).sqrt(), with(root.pow(2).subtract(ONE)), 2, x -> x.root(2, 0));
            }
        });
        says(SIGN, () -> {
            answers(0, with(0), x -> x.root(0, 0));
            answers(1, with(1), x -> x.root(0, 0));
            answers(1, with(MOST), x -> x.root(0, 0));
        });
        says(FOR_EITHER, () -> {
            registers(with(3), (x, r) -> x.root(r, 0), (x, r) -> x.root(0, r), (x, r) -> x.root(r, r));
            noRegisters(with(-3), (x, r) -> x.root(r, 0));
        });
        says("Throws `ArithmeticException` if the number is below 0", () -> {
            for (Object number : new Object[] {-1, -4, Long.MIN_VALUE, LEAST}) {
                refuses(ARITHMETIC, with(number), x -> x.root(2, 0));
                refuses(ARITHMETIC, with(number), x -> x.root(0, 0));
            }
        });
    }

    /** No numbers at all, as the last one is less than the first one. */
    private static void putsForNone(int want, CallOfThree call) {
        int[][] ends = {{1, 0}, {15, 0}, {15, 14}, {8, 7}, {8, 2}};
        for (int[] each : ends) {
            changes(want, with(LEAST, 5, 6), 2, want, x -> call.on(x, 2, each[0], each[1]));
        }
    }

    private interface CallOfThree {
        Object on(Biglaws x, int register, int first, int last);
    }

    private static final String NONE = "there are none if it is less than the first one";
    private static final String FOR_ANY_OF_THREE = FOR_ANY + " of the three, also if there are none";

    private static void sum() {
        promise(25);
        says("Puts the sum of the numbers of registers that follow each other, 0 for none", () -> {
            changes(-1, with(5, -6, -7, 9), 8, -13, x -> x.sum(8, 1, 2));
            changes(1, with(5, -6, -7, 9), 2, 1, x -> x.sum(2, 0, 3));
            changes(-1, with(5, -6), 0, -6, x -> x.sum(0, 1, 1));
            changes(1, with(0).then(x -> x.set(15, 4)), 0, 4, x -> x.sum(0, 15, 15));
            changes(1, with(3).then(x -> x.set(15, 4)), 15, 7, x -> x.sum(15, 0, 15));
            putsForNone(0, (x, register, first, last) -> x.sum(register, first, last));
        });
        says(NONE, () -> {
            for (int first = 0; first < REGISTERS; first++) {
                for (int last = 0; last < REGISTERS; last++) {
                    int from = first;
                    int to = last;
                    int want = last < first ? 0 : last - first + 1;
                    Start ones = bare(1, 1, 1, 1, 1, 1, 1, 1, 1, 1, 1, 1, 1, 1, 1, 1);
                    puts(want, ones, 3, x -> x.sum(3, from, to));
                }
            }
        });
        says(SIGN, () -> {
            signs(-6, -5, -4, 5, x -> x.sum(0, 0, 1));
            answers(0, with(7, 8), x -> x.sum(0, 1, 0));
        });
        says(FOR_ANY_OF_THREE, () -> {
            registers(with(3), (x, r) -> x.sum(r, 0, 1), (x, r) -> x.sum(2, r, 7), (x, r) -> x.sum(2, 7, r),
                    (x, r) -> x.sum(r, 1, 0));
            noRegisters(with(MOST, MOST), (x, r) -> x.sum(r, 0, 1), (x, r) -> x.sum(2, r, 1), (x, r) -> x.sum(2, 0, r),
                    (x, r) -> x.sum(2, r, 0), (x, r) -> x.sum(2, 15, r), (x, r) -> x.sum(r, r, r));
        });
        says(TOO_MANY + ", whatever the sums of some have", () -> {
            changes(-1, with(MOST, MOST, 1, LEAST, LEAST, -2), 8, -1, x -> x.sum(8, 0, 5));
            changes(1, with(MOST, 1, -1), 8, MOST, x -> x.sum(8, 0, 2));
            changes(-1, with(LEAST, -1, 1), 8, LEAST, x -> x.sum(8, 0, 2));
            refuses(STATE, with(MOST, 1, -1), x -> x.sum(8, 0, 1));
            refuses(STATE, with(LEAST, -1, 1), x -> x.sum(8, 0, 1));
            refuses(STATE, with(LEAST, MOST, MOST, 1), x -> x.sum(1, 0, 3));
            BigInteger up = MOST;
            BigInteger down = LEAST;
            changes(0, with(up, up, up, up, up, up, up, up, down, down, down, down, down, down, down, down), 0, 0, x -> x.sum(0, 0, 15));
            refuses(STATE, with(up, up, up, up, up, up, up, up, up, up, up, up, up, up, up, up), x -> x.sum(0, 0, 15));
            refuses(STATE, with(down, down, down, down, down, down, down, down, down, down, down, down, down, down, down, down),
                    x -> x.sum(0, 0, 15));
        });
    }

    private static void product() {
        promise(26);
        says("Puts the product of the numbers of registers that follow each other, 1 for none", () -> {
            changes(1, with(5, -6, -7, 9), 8, 42, x -> x.product(8, 1, 2));
            changes(-1, with(5, 6, -7, 9), 2, -1890, x -> x.product(2, 0, 3));
            changes(-1, with(5, -6), 0, -6, x -> x.product(0, 1, 1));
            changes(-1, with(7).then(x -> x.set(15, -4)), 0, -4, x -> x.product(0, 15, 15));
            changes(0, with(3).then(x -> x.set(15, 4)), 15, 0, x -> x.product(15, 0, 15));
            putsForNone(1, (x, register, first, last) -> x.product(register, first, last));
        });
        says(NONE, () -> {
            for (int first = 0; first < REGISTERS; first++) {
                for (int last = 0; last < REGISTERS; last++) {
                    int from = first;
                    int to = last;
                    BigInteger want = big(2).pow(Math.max(last - first + 1, 0));
                    Start twos = bare(2, 2, 2, 2, 2, 2, 2, 2, 2, 2, 2, 2, 2, 2, 2, 2);
                    puts(want, twos, 3, x -> x.product(3, from, to));
                }
            }
        });
        says(SIGN, () -> {
            signs(-6, 0, 4, 5, x -> x.product(0, 0, 1));
            answers(1, with(-7, 0), x -> x.product(0, 1, 0));
        });
        says(FOR_ANY_OF_THREE, () -> {
            registers(with(3), (x, r) -> x.product(r, 0, 1), (x, r) -> x.product(2, r, 7), (x, r) -> x.product(2, 7, r),
                    (x, r) -> x.product(r, 1, 0));
            noRegisters(with(MOST, MOST), (x, r) -> x.product(r, 0, 1), (x, r) -> x.product(2, r, 1), (x, r) -> x.product(2, 0, r),
                    (x, r) -> x.product(2, r, 0), (x, r) -> x.product(2, 15, r), (x, r) -> x.product(r, r, r));
        });
        says(TOO_MANY + ", whatever the products of some have", () -> {
            changes(0, with(MOST, LEAST, MOST, 0), 8, 0, x -> x.product(8, 0, 3));
            changes(0, with(0, MOST, LEAST, MOST), 8, 0, x -> x.product(8, 0, 3));
            BigInteger up = MOST;
            changes(0, with(up, up, up, up, up, up, up, up, up, up, up, up, up, up, up, 0), 0, 0, x -> x.product(0, 0, 15));
            changes(0, with(0, up, up, up, up, up, up, up, up, up, up, up, up, up, up, up), 15, 0, x -> x.product(15, 0, 15));
            refuses(STATE, with(up, up, up, up, up, up, up, up, up, up, up, up, up, up, up, up), x -> x.product(0, 0, 15));
            refuses(STATE, with(up, up, up, up, up, up, up, up, up, up, up, up, up, up, up, -1), x -> x.product(0, 0, 15));
            changes(-1, with(ten(74), ten(75), -1), 8, ten(149).negate(), x -> x.product(8, 0, 2));
            changes(1, with(MOST, 1, -1, -1), 8, MOST, x -> x.product(8, 0, 3));
            changes(1, with(MOST.divide(big(27)), 3, 3, 3), 8, MOST.subtract(MOST.mod(big(27))), x -> x.product(8, 0, 3));
            refuses(STATE, with(ten(74), ten(75), -10), x -> x.product(8, 0, 2));
            refuses(STATE, with(-10, ten(149)), x -> x.product(0, 0, 1));
            refuses(STATE, with(MOST, 1, 2, 1), x -> x.product(8, 0, 3));
        });
    }

    private static void doubled() {
        promise(27);
        says("Doubles the number of a register n times", () -> {
            changes(-1, with(-3), 0, two(31).multiply(big(-3)), x -> x.doubled(0, 31));
            changes(1, with(5, MOST), 0, 10, x -> x.doubled(0, 1));
            for (BigInteger number : EDGES) {
                for (int n : new int[] {0, 1, 2, 29, 30, 31, 32, 59, 60, 61, 64, 90, 300, 450, 497, 498, 499, 600}) {
                    if (isShort(number.shiftLeft(n))) {
                        puts(number.shiftLeft(n), with(number), 0, x -> x.doubled(0, n));
                    }
                }
            }
        });
        says("how many times, 0 to 600", () -> {
            changes(1, with(MOST), 0, MOST, x -> x.doubled(0, 0));
            changes(0, with(0), 0, 0, x -> x.doubled(0, 600));
            changes(0, with(0), 0, 0, x -> x.doubled(0, 599));
            answers(ARGUMENT.getName(), with(0), x -> x.doubled(0, 601));
            answers(ARGUMENT.getName(), with(0), x -> x.doubled(0, -1));
        });
        says(SIGN, () -> signs(-3, 0, 3, 5, x -> x.doubled(0, 7)));
        says(NO_REGISTER, () -> {
            registers(with(3), (x, r) -> x.doubled(r, 0), (x, r) -> x.doubled(r, 5));
            noRegisters(with(3), (x, r) -> x.doubled(r, -1), (x, r) -> x.doubled(r, 601), (x, r) -> x.doubled(r, 600));
        });
        says("Throws `IllegalArgumentException` if n is out of range", () -> {
            refuses(ARGUMENT, with(0), (x, n) -> x.doubled(0, n), -1, 601, -600, 602, 65536, MIN, MIN + 1, MAX);
            refuses(ARGUMENT, with(MOST), (x, n) -> x.doubled(0, n), -1, 601, -600, 602, 65536, MIN, MIN + 1, MAX);
        });
        says(TOO_MANY, () -> {
            changes(1, with(1), 0, two(498), x -> x.doubled(0, 498));
            changes(-1, with(-1), 0, two(498).negate(), x -> x.doubled(0, 498));
            refuses(STATE, with(1), (x, n) -> x.doubled(0, n), 499, 500, 512, 599, 600);
            refuses(STATE, with(-1), (x, n) -> x.doubled(0, n), 499, 600);
            refuses(STATE, with(MOST), (x, n) -> x.doubled(0, n), 1, 2, 30, 600);
            BigInteger half = ten(149).multiply(big(5));
            refuses(STATE, with(half), x -> x.doubled(0, 1));
            refuses(STATE, with(half.negate()), x -> x.doubled(0, 1));
            changes(1, with(half.subtract(ONE)), 0, LIMIT.subtract(big(2)), x -> x.doubled(0, 1));
            changes(-1, with(ONE.subtract(half)), 0, big(2).subtract(LIMIT), x -> x.doubled(0, 1));
        });
    }

    private static void halved() {
        promise(28);
        says("Halves the number of a register n times, rounded down each time", () -> {
            changes(-1, with(-5), 0, -3, x -> x.halved(0, 1));
            changes(1, with(5), 0, 2, x -> x.halved(0, 1));
            changes(-1, with(-1), 0, -1, x -> x.halved(0, 600));
            changes(-1, with(-5), 0, -1, x -> x.halved(0, 3));
            changes(-1, with(LEAST), 0, -2, x -> x.halved(0, 498));
            for (BigInteger number : EDGES) {
                for (int n : new int[] {0, 1, 2, 3, 29, 30, 31, 60, 61, 63, 64, 250, 496, 497, 498, 499, 500, 599, 600}) {
                    puts(number.shiftRight(n), with(number), 0, x -> x.halved(0, n));
                }
            }
            for (int number = -70; number <= 70; number++) {
                for (int n = 0; n <= 8; n++) {
                    int times = n;
                    puts(number >> n, with(number), 0, x -> x.halved(0, times));
                }
            }
        });
        says("how many times, 0 to 600", () -> {
            changes(1, with(MOST), 0, MOST, x -> x.halved(0, 0));
            changes(-1, with(LEAST), 0, LEAST, x -> x.halved(0, 0));
            changes(0, with(MOST), 0, 0, x -> x.halved(0, 600));
            changes(-1, with(LEAST), 0, -1, x -> x.halved(0, 600));
            answers(ARGUMENT.getName(), with(0), x -> x.halved(0, 601));
            answers(ARGUMENT.getName(), with(0), x -> x.halved(0, -1));
        });
        says(SIGN, () -> {
            signs(-1, 1, 2, 5, x -> x.halved(0, 1));
            signs(-9, 0, 9, 5, x -> x.halved(0, 3));
        });
        says(NO_REGISTER, () -> {
            registers(with(3), (x, r) -> x.halved(r, 0), (x, r) -> x.halved(r, 5));
            noRegisters(with(3), (x, r) -> x.halved(r, -1), (x, r) -> x.halved(r, 601), (x, r) -> x.halved(r, MAX));
        });
        says("Throws `IllegalArgumentException` if n is out of range", () -> {
            refuses(ARGUMENT, with(5), (x, n) -> x.halved(0, n), -1, 601, -600, 602, 65536, MIN, MIN + 1, MAX);
            refuses(ARGUMENT, with(LEAST), (x, n) -> x.halved(0, n), -1, 601, -600, 602, 65536, MIN, MIN + 1, MAX);
        });
    }

    public static void main(String[] args) {
        add();
        subtract();
        multiply();
        divide();
        remainder();
        divideBoth();
        mod();
        negate();
        abs();
        pow();
        modPow();
        inverse();
        gcd();
        minAndMax();
        root();
        sum();
        product();
        doubled();
        halved();
        finish(20);
    }
}
