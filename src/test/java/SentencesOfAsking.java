import java.math.BigInteger;
import java.util.Arrays;
import java.util.NoSuchElementException;

/** The sentences of promises 29 to 45: what is taken back, and what is asked. */
public final class SentencesOfAsking extends Sentences {
    private static final String NO_REGISTER = "Throws `IndexOutOfBoundsException` if there is no such register";
    private static final String FOR_ANY = NO_REGISTER + ", for any";
    private static final String FOR_EITHER = NO_REGISTER + ", for either";
    private static final String OR_PLACE = NO_REGISTER + " or place";
    private static final String HOW_MANY = "Returns how many";
    private static final String TAKEN_AS_10 = "one that is not 2 to 36 is taken as 10";
    private static final String PLACE = "the place in the text, from 0";
    private static final Class<?> ARITHMETIC = ArithmeticException.class;
    private static final Class<?> NO_PLACE = IndexOutOfBoundsException.class;
    private static final int[] NO_RADIXES = {1, 0, -1, -2, -10, -16, -36, 37, 38, 256 + 16, 65536 + 2, MIN, MIN + 2, MAX};

    /** Numbers on both sides of where an int, a long, or a power of two by one of them ends. */
    private static final BigInteger[] NEAR_POWERS = nearPowers();

    private static BigInteger[] nearPowers() {
        int[] powers = {1, 2, 29, 30, 31, 32, 33, 59, 60, 61, 62, 63, 64, 65, 89, 90, 91, 95, 96, 127, 128, 200, 497};
        BigInteger[] all = new BigInteger[powers.length * 6];
        for (int i = 0; i < powers.length; i++) {
            for (int k = 0; k < 3; k++) {
                all[6 * i + k] = two(powers[i]).add(big(k - 1));
                all[6 * i + k + 3] = two(powers[i]).add(big(k - 1)).negate();
            }
        }
        return all;
    }

    private interface Due {
        Object of(BigInteger number);
    }

    private static void tellsForEach(Due due, Call call) {
        for (BigInteger number : EDGES) {
            answers(due.of(number), with(number), call);
        }
        for (BigInteger number : NEAR_POWERS) {
            answers(due.of(number), bare(number), call);
        }
    }

    /** A new object after so many changes of register 0, the k-th of which puts k. */
    private static Start afterChanges(int changes) {
        Start start = new Start();
        for (int i = 1; i <= changes; i++) {
            int number = i;
            start.then(x -> x.set(0, number));
        }
        return start;
    }

    private static void undo() {
        promise(29);
        says("Takes the latest change back that was not taken back", () -> {
            same(with(5, 6).then(x -> x.set(0, 7)), x -> x.undo(), with(5, 6), x -> 0);
            same(afterChanges(3).then(x -> x.undo()), x -> x.undo(), afterChanges(1), x -> 0);
            same(afterChanges(3).then(x -> x.undo()).then(x -> x.set(0, 9)).then(x -> x.undo()), x -> x.undo(), afterChanges(1), x -> 0);
            same(with(5, LEAST).then(x -> x.abs(1, 1)), x -> x.undo(), with(5, LEAST), x -> 0);
            same(with(5, MOST).then(x -> x.divideBoth(1, 0, 1, 0)), x -> x.undo(), with(5, MOST), x -> 0);
            for (int changes = 1; changes <= 30; changes++) {
                Biglaws x = afterChanges(changes).make();
                for (int taken = 1; taken <= Math.min(changes, 20); taken++) {
                    x.undo();
                    due("the number", changes - taken, number(x, 0));
                }
            }
        });
        says("Returns how many can be taken back then", () -> {
            for (int changes = 1; changes <= 45; changes++) {
                Biglaws x = afterChanges(changes).make();
                for (int left = Math.min(changes, 20) - 1; left >= 0; left--) {
                    due("undo", left, x.undo());
                    due("changes", left, x.changes());
                }
            }
        });
        says("Throws `NoSuchElementException` if none can", () -> {
            Class<?> none = NoSuchElementException.class;
            refuses(none, bare(), x -> x.undo());
            refuses(none, bare().typed("12"), x -> x.undo());
            refuses(none, bare().then(x -> x.erase()), x -> x.undo());
            refuses(none, bare(3).then(x -> x.undo()), x -> x.undo());
            refuses(none, bare().typed("12").then(x -> x.read(0)).then(x -> x.undo()), x -> x.undo());
            for (int changes : new int[] {1, 19, 20, 21, 22, 40}) {
                Start start = afterChanges(changes);
                for (int i = 0; i < Math.min(changes, 20); i++) {
                    start.then(x -> x.undo());
                }
                refuses(none, start, x -> x.undo());
                answers(0, start.then(x -> x.set(1, 4)), x -> x.undo());
            }
        });
    }

    private static void changes() {
        promise(30);
        says("Returns how many changes can be taken back", () -> {
            for (int changes = 0; changes <= 45; changes++) {
                tells(Math.min(changes, 20), afterChanges(changes), x -> x.changes());
            }
            tells(18, afterChanges(30).then(x -> x.undo()).then(x -> x.undo()), x -> x.changes());
            tells(20, afterChanges(30).then(x -> x.undo()).then(x -> x.set(0, 0)), x -> x.changes());
            tells(3, with(7, 3).then(x -> x.divideBoth(4, 5, 0, 1)), x -> x.changes());
        });
        says(HOW_MANY, () -> {
            tells(0, bare(), x -> x.changes());
            tells(0, bare().typed("12"), x -> x.changes());
            tells(0, bare(4).then(x -> x.undo()), x -> x.changes());
            tells(1, bare(4).typed("12"), x -> x.changes());
            tells(20, full(), x -> x.changes());
        });
    }

    private static void signum() {
        promise(31);
        says("Returns the sign of a number", () -> tellsForEach(number -> number.signum(), x -> x.signum(0)));
        says("Returns -1, 0 or 1", () -> {
            tells(-1, with(LEAST), x -> x.signum(0));
            tells(0, with(MOST, MOST).then(x -> x.subtract(0, 0, 1)), x -> x.signum(0));
            tells(0, bare().typed("-0").then(x -> x.read(3)), x -> x.signum(3));
            tells(1, with(MOST), x -> x.signum(0));
        });
        says(NO_REGISTER, () -> registers(with(3), (x, r) -> x.signum(r)));
    }

    private static void compare() {
        promise(32);
        says("Compares two numbers", () -> {
            tells(1, with(5, -6), x -> x.compare(0, 1));
            tells(-1, with(LEAST, MOST), x -> x.compare(0, 1));
            tells(0, with(MOST), x -> x.compare(0, 0));
        });
        says("Returns -1 if the first one is less, 0 if both are the same number, 1 if it is greater", () -> {
            for (BigInteger a : EDGES) {
                for (BigInteger b : EDGES) {
                    answers(a.compareTo(b), bare(a, b), x -> x.compare(0, 1));
                }
                if (isShort(a.add(ONE))) {
                    answers(-1, bare(a, a.add(ONE)), x -> x.compare(0, 1));
                    answers(1, bare(a, a.add(ONE)), x -> x.compare(1, 0));
                }
                answers(0, bare(a).then(x -> x.negate(1, 0)).then(x -> x.negate(1, 1)), x -> x.compare(0, 1));
            }
        });
        says(FOR_EITHER, () -> registers(with(3), (x, r) -> x.compare(r, 0), (x, r) -> x.compare(0, r), (x, r) -> x.compare(r, r)));
    }

    private static void areEqual() {
        promise(33);
        says("Tells whether two registers have the same number", () -> {
            for (BigInteger a : EDGES) {
                for (BigInteger b : EDGES) {
                    answers(a.equals(b), bare(a, b), x -> x.areEqual(0, 1));
                }
            }
        });
        says("Returns whether they have", () -> {
            tells(true, with(MOST, MOST), x -> x.areEqual(0, 1));
            tells(false, with(MOST, LEAST), x -> x.areEqual(0, 1));
            tells(true, with(3, 3).then(x -> x.subtract(0, 0, 1)), x -> x.areEqual(0, 9));
            tells(true, with(-8).then(x -> x.halved(0, 1)).then(x -> x.set(1, -4)), x -> x.areEqual(0, 1));
        });
        says(FOR_EITHER, () -> registers(with(3), (x, r) -> x.areEqual(r, 0), (x, r) -> x.areEqual(0, r), (x, r) -> x.areEqual(r, r)));
    }

    private static void length() {
        promise(34);
        says("Returns how many signs the text of a number by the radix 10 has", () ->
                tellsForEach(number -> number.toString().length(), x -> x.length(0)));
        says(HOW_MANY, () -> {
            tells(1, with(0), x -> x.length(0));
            tells(1, with(9), x -> x.length(0));
            tells(2, with(10), x -> x.length(0));
            tells(2, with(-9), x -> x.length(0));
            tells(3, with(-10), x -> x.length(0));
            tells(150, with(MOST), x -> x.length(0));
            tells(151, with(LEAST), x -> x.length(0));
            for (int n = 0; n < 150; n++) {
                answers(n + 1, bare(ten(n)), x -> x.length(0));
                answers(n + 2, bare(ten(n).negate()), x -> x.length(0));
            }
        });
        says(NO_REGISTER, () -> registers(with(3), (x, r) -> x.length(r)));
    }

    private static final BigInteger[] SPELT = {big(0), big(7), big(-35), big(-1234567890), ten(21).negate(), two(90), MOST, LEAST};

    private static void signAt() {
        promise(35);
        says("Returns a sign of the text of a number by the radix 10", () -> {
            tells('-', with(-12), x -> x.signAt(0, 0));
            tells('1', with(-12), x -> x.signAt(0, 1));
            tells('2', with(-12), x -> x.signAt(0, 2));
        });
        says(PLACE, () -> {
            for (BigInteger number : SPELT) {
                String text = number.toString();
                answers(text.charAt(0), bare(number), x -> x.signAt(0, 0));
                answers(text.charAt(text.length() - 1), bare(number), x -> x.signAt(0, text.length() - 1));
                refuses(NO_PLACE, with(number), (x, place) -> x.signAt(0, place), -1, text.length());
            }
        });
        says("Returns the sign", () -> {
            for (BigInteger number : SPELT) {
                String text = number.toString();
                Biglaws x = bare(number).make();
                for (int i = 0; i < text.length(); i++) {
                    due("the sign", text.charAt(i), x.signAt(0, i));
                }
            }
        });
        says(OR_PLACE, () -> {
            registers(with(3), (x, r) -> x.signAt(r, 0));
            noRegisters(with(3), (x, r) -> x.signAt(r, -1), (x, r) -> x.signAt(r, 1));
            for (BigInteger number : SPELT) {
                int end = number.toString().length();
                refuses(NO_PLACE, with(number), (x, place) -> x.signAt(0, place), end, end + 1, 512, 65536, MAX, -1, -2, MIN, MIN + 1);
            }
        });
    }

    private static void lengthBy() {
        promise(36);
        says("Returns how many signs the text of a number by a radix has", () -> {
            for (int radix = 2; radix <= 36; radix++) {
                int by = radix;
                for (BigInteger number : EDGES) {
                    answers(number.toString(by).length(), bare(number), x -> x.lengthBy(0, by));
                }
                answers(2, bare(radix), x -> x.lengthBy(0, by));
                answers(1, bare(radix - 1), x -> x.lengthBy(0, by));
            }
        });
        says(TAKEN_AS_10, () -> {
            for (int radix : NO_RADIXES) {
                for (BigInteger number : SPELT) {
                    tells(number.toString().length(), with(number), x -> x.lengthBy(0, radix));
                }
            }
            tells(499, with(two(498)), x -> x.lengthBy(0, 2));
            tells(98, with(LEAST), x -> x.lengthBy(0, 36));
        });
        says(HOW_MANY, () -> {
            tells(500, with(two(498).negate()), x -> x.lengthBy(0, 2));
            tells(1, with(0), x -> x.lengthBy(0, 2));
            tells(1, with(35), x -> x.lengthBy(0, 36));
            tells(3, with(-36), x -> x.lengthBy(0, 36));
        });
        says(NO_REGISTER, () -> {
            registers(with(3), (x, r) -> x.lengthBy(r, 2), (x, r) -> x.lengthBy(r, 36), (x, r) -> x.lengthBy(r, 37));
        });
    }

    /** Many signs are asked for of several objects, 200 of each. */
    private static void spells(BigInteger number, int radix, String want) {
        Start start = bare(number);
        Biglaws x = start.make();
        for (int i = 0; i < want.length(); i++) {
            if (i % 200 == 0) {
                x = start.make();
            }
            due("sign " + i + " by " + radix, want.charAt(i), x.signBy(0, radix, i));
        }
    }

    private static void signBy() {
        promise(37);
        says("Returns a sign of the text of a number by a radix, with small letters", () -> {
            for (int digit = 0; digit < 36; digit++) {
                tells("0123456789abcdefghijklmnopqrstuvwxyz".charAt(digit), with(digit), x -> x.signBy(0, 36, 0));
            }
            tells('z', bare().typed("-Zz").then(x -> x.readBy(0, 36)), x -> x.signBy(0, 36, 1));
            tells('f', with(-255), x -> x.signBy(0, 16, 2));
        });
        says(TAKEN_AS_10, () -> {
            for (int radix : NO_RADIXES) {
                for (BigInteger number : SPELT) {
                    spells(number, radix, number.toString());
                    int end = number.toString().length();
                    refuses(NO_PLACE, with(number), (x, place) -> x.signBy(0, radix, place), -1, end);
                }
            }
        });
        says(PLACE, () -> {
            for (int radix = 2; radix <= 36; radix++) {
                for (BigInteger number : SPELT) {
                    String text = number.toString(radix);
                    int by = radix;
                    answers(text.charAt(0), bare(number), x -> x.signBy(0, by, 0));
                    answers(text.charAt(text.length() - 1), bare(number), x -> x.signBy(0, by, text.length() - 1));
                    refuses(NO_PLACE, with(number), (x, place) -> x.signBy(0, by, place), -1, text.length());
                }
            }
        });
        says("Returns the sign", () -> {
            for (int radix = 2; radix <= 36; radix++) {
                for (BigInteger number : SPELT) {
                    spells(number, radix, number.toString(radix));
                }
            }
        });
        says(OR_PLACE, () -> {
            registers(with(3), (x, r) -> x.signBy(r, 2, 0), (x, r) -> x.signBy(r, 37, 0));
            noRegisters(with(3), (x, r) -> x.signBy(r, 2, -1), (x, r) -> x.signBy(r, 1, 9));
            refuses(NO_PLACE, with(-35), (x, place) -> x.signBy(0, 36, place), 2, 3, 512, 65536, MAX, -1, -2, MIN, MIN + 1);
            refuses(NO_PLACE, with(two(498)), (x, place) -> x.signBy(0, 2, place), 499, 500, 511, 512, MAX, -1, MIN);
        });
    }

    private static void longs() {
        promise(38);
        says("Returns that long that differs from a number by a multiple of 2 to the power of 64", () -> {
            tellsForEach(number -> number.longValue(), x -> x.longValue(0));
            tells(Long.MIN_VALUE, with(two(63)), x -> x.longValue(0));
            tells(Long.MAX_VALUE, with(two(63).add(ONE).negate()), x -> x.longValue(0));
            tells(0, with(two(64)), x -> x.longValue(0));
            tells(-1, with(two(64).subtract(ONE)), x -> x.longValue(0));
            tells(1, with(two(64).subtract(ONE).negate()), x -> x.longValue(0));
        });
        says("Returns the long", () -> {
            for (long number : new long[] {0, 1, -1, Long.MIN_VALUE, Long.MIN_VALUE + 1, Long.MAX_VALUE}) {
                tells(number, with(number), x -> x.longValue(0));
            }
        });
        says(NO_REGISTER, () -> registers(with(3), (x, r) -> x.longValue(r)));
        promise(39);
        says("Returns a number as a long", () -> {
            for (long number : new long[] {0, 1, -1, 1L << 30, -(1L << 32), 1L << 60, -(1L << 60), 1L << 62}) {
                tells(number, with(number), x -> x.longExact(0));
            }
        });
        says("Returns the number", () -> {
            tells(Long.MAX_VALUE, with(Long.MAX_VALUE), x -> x.longExact(0));
            tells(Long.MIN_VALUE, with(Long.MIN_VALUE), x -> x.longExact(0));
            tells(Long.MIN_VALUE, with(two(63)).then(x -> x.negate(0, 0)), x -> x.longExact(0));
            tellsForEach(number -> number.bitLength() < 64 ? number : ARITHMETIC.getName(), x -> x.longExact(0));
        });
        says(NO_REGISTER, () -> registers(with(3), (x, r) -> x.longExact(r)));
        says("Throws `ArithmeticException` if there is no such long", () -> {
            BigInteger[] numbers = {two(63), two(63).add(ONE), two(63).add(ONE).negate(), two(64), two(64).negate(), two(64).add(ONE),
                two(90), two(128).add(ONE), MOST, LEAST};
            for (BigInteger number : numbers) {
                refuses(ARITHMETIC, with(number), x -> x.longExact(0));
            }
        });
    }

    private static void ints() {
        promise(40);
        says("Returns that int that differs from a number by a multiple of 2 to the power of 32", () -> {
            tellsForEach(number -> number.intValue(), x -> x.intValue(0));
            tells(MIN, with(two(31)), x -> x.intValue(0));
            tells(MAX, with(two(31).add(ONE).negate()), x -> x.intValue(0));
            tells(0, with(two(32)), x -> x.intValue(0));
            tells(-1, with(two(32).subtract(ONE)), x -> x.intValue(0));
            tells(1, with(two(32).subtract(ONE).negate()), x -> x.intValue(0));
        });
        says("Returns the int", () -> {
            for (int number : new int[] {0, 1, -1, MIN, MIN + 1, MAX}) {
                tells(number, with(number), x -> x.intValue(0));
            }
        });
        says(NO_REGISTER, () -> registers(with(3), (x, r) -> x.intValue(r)));
        promise(41);
        says("Returns a number as an int", () -> {
            for (int number : new int[] {0, 1, -1, 1 << 29, -(1 << 29), 1 << 30, -(1 << 30)}) {
                tells(number, with(number), x -> x.intExact(0));
            }
        });
        says("Returns the number", () -> {
            tells(MAX, with(MAX), x -> x.intExact(0));
            tells(MIN, with(MIN), x -> x.intExact(0));
            tells(MIN, with(two(31)).then(x -> x.negate(0, 0)), x -> x.intExact(0));
            tellsForEach(number -> number.bitLength() < 32 ? number : ARITHMETIC.getName(), x -> x.intExact(0));
        });
        says(NO_REGISTER, () -> registers(with(3), (x, r) -> x.intExact(r)));
        says("Throws `ArithmeticException` if there is no such int", () -> {
            BigInteger[] numbers = {two(31), two(31).add(ONE), two(31).add(ONE).negate(), two(32), two(32).negate(), two(32).add(ONE),
                two(63), two(63).negate(), two(64), two(64).add(big(5)), MOST, LEAST};
            for (BigInteger number : numbers) {
                refuses(ARITHMETIC, with(number), x -> x.intExact(0));
            }
        });
    }

    private static void bits() {
        promise(42);
        says("Returns the least n, from 0 on, for which a number is below 2 to the power of n, and not below 0 less that", () -> {
            tellsForEach(number -> number.bitLength(), x -> x.bitLength(0));
            int[][] pairs = {{0, 0}, {-1, 0}, {1, 1}, {-2, 1}, {2, 2}, {3, 2}, {-3, 2}, {-4, 2}, {4, 3}, {-5, 3}};
            for (int[] each : pairs) {
                tells(each[1], with(each[0]), x -> x.bitLength(0));
            }
        });
        says("Returns n", () -> {
            tells(499, with(MOST), x -> x.bitLength(0));
            tells(499, with(LEAST), x -> x.bitLength(0));
            tells(499, with(two(498)), x -> x.bitLength(0));
            tells(498, with(two(498).negate()), x -> x.bitLength(0));
        });
        says(NO_REGISTER, () -> registers(with(3), (x, r) -> x.bitLength(r)));
        promise(43);
        says("Tells whether a number that was halved n times, rounded down each time, is odd", () -> {
            for (BigInteger number : EDGES) {
                for (int n : new int[] {0, 1, 2, 28, 29, 30, 31, 32, 59, 60, 61, 62, 63, 64, 65, 300, 497, 498, 499, 500, 600, 1000}) {
                    answers(number.testBit(n), bare(number), x -> x.testBit(0, n));
                }
            }
            tells(true, with(1), x -> x.testBit(0, 0));
            tells(false, with(-2), x -> x.testBit(0, 0));
            tells(true, with(-2), x -> x.testBit(0, 1));
        });
        says("Returns whether it is", () -> {
            for (int n : new int[] {499, 500, 512, 601, 1559, 1560, 65536, 1 << 30, MAX - 1, MAX}) {
                tells(false, with(MOST), x -> x.testBit(0, n));
                tells(true, with(LEAST), x -> x.testBit(0, n));
                tells(false, with(0), x -> x.testBit(0, n));
                tells(true, with(-1), x -> x.testBit(0, n));
            }
        });
        says(NO_REGISTER, () -> {
            registers(with(3), (x, r) -> x.testBit(r, 0));
            noRegisters(with(3), (x, r) -> x.testBit(r, -1), (x, r) -> x.testBit(r, MIN));
        });
        says("Throws `ArithmeticException` if n is below 0", () -> {
            for (Object number : new Object[] {0, 3, -3, LEAST}) {
                answers(number.equals(3) || number.equals(-3) || number.equals(LEAST), with(number), x -> x.testBit(0, 0));
                refuses(ARITHMETIC, with(number), (x, n) -> x.testBit(0, n), -1, -2, -30, -31, MIN, MIN + 1);
            }
        });
    }

    private static void areLaws() {
        promise(44);
        BigInteger[] numbers = {MOST, LEAST, big(0), big(-12), two(300).subtract(ONE), big(Long.MIN_VALUE)};
        says("Tells whether, for three numbers a, b and c, (a + b) + c is a + (b + c), a + b is b + a, (a * b) * c is a * (b * c), "
                + "a * b is b * a, a * (b + c) is a * b + a * c", () -> {
            for (BigInteger a : EDGES) {
                for (BigInteger c : EDGES) {
                    answers(true, bare(a, 0, c), x -> x.areLaws(0, 1, 2));
                }
            }
        });
        says("and, unless b is 0, a is the quotient of a and b times b and the remainder more, the remainder is nearer to 0 than b, "
                + "and the greatest common divisor of a and b divides a, b and c * a - b", () -> {
            for (BigInteger a : EDGES) {
                for (BigInteger b : EDGES) {
                    answers(true, bare(a, b, 7), x -> x.areLaws(0, 1, 2));
                }
            }
            tells(true, with(0, 0, 0), x -> x.areLaws(0, 1, 2));
            tells(true, with(MOST, 0, LEAST), x -> x.areLaws(0, 1, 2));
        });
        says("however many digits come up in it", () -> {
            tells(true, with(MOST), x -> x.areLaws(0, 0, 0));
            tells(true, with(LEAST), x -> x.areLaws(0, 0, 0));
            tells(true, with(MOST, LEAST, MOST), x -> x.areLaws(0, 1, 2));
            tells(true, with(MOST, MOST.subtract(ONE), MOST), x -> x.areLaws(0, 1, 2));
            tells(true, with(MOST, -1, LEAST), x -> x.areLaws(0, 1, 2));
        });
        says("Returns whether all of this is so", () -> {
            for (int i = 0; i < 6 * 6 * 6; i++) {
                int each = i;
                answers(true, bare((Object[]) numbers), x -> x.areLaws(each % 6, each / 6 % 6, each / 36));
            }
        });
        says(FOR_ANY, () -> {
            registers(with(3), (x, r) -> x.areLaws(r, 0, 0), (x, r) -> x.areLaws(0, r, 0), (x, r) -> x.areLaws(0, 0, r),
                    (x, r) -> x.areLaws(r, r, r));
            noRegisters(with(0), (x, r) -> x.areLaws(0, 0, r));
        });
    }

    private static long sum(Object... numbers) {
        long sum = 7;
        for (int i = 0; i < REGISTERS; i++) {
            sum = 31 * sum + (i < numbers.length ? big(numbers[i]).longValue() : 0);
        }
        return sum;
    }

    private static void checksum() {
        promise(45);
        says("Returns a sum over the registers", () -> {
            tells(sum(3, -4), with(3, -4), x -> x.checksum());
            for (int each = 0; each < REGISTERS; each++) {
                int register = each;
                Object[] numbers = new Object[REGISTERS];
                Arrays.fill(numbers, 0);
                numbers[register] = 5;
                tells(sum(numbers), bare().then(x -> x.set(register, 5)), x -> x.checksum());
            }
        });
        says("Returns 7 at first, then for each register, by rising numbers, 31 times itself plus what longValue() tells of it, "
                + "a long that goes round", () -> {
            tells(sum(), bare(), x -> x.checksum());
            tells(sum(1, 2, 3, 4, 5, 6, 7, 8, 9, 10, 11, 12, 13, 14, 15, 16),
                    with(1, 2, 3, 4, 5, 6, 7, 8, 9, 10, 11, 12, 13, 14, 15, 16), x -> x.checksum());
            tells(sum(MOST, LEAST, two(63), two(64), two(64).subtract(ONE), Long.MIN_VALUE),
                    with(MOST, LEAST, two(63), two(64), two(64).subtract(ONE), Long.MIN_VALUE), x -> x.checksum());
            for (BigInteger number : EDGES) {
                answers(sum(number, number), with(number, number), x -> x.checksum());
            }
            tells(3733361226009453711L, with(two(64).subtract(big(2)), big(2).subtract(two(64)), two(64).subtract(big(2)),
                    big(2).subtract(two(64))), x -> x.checksum());
        });
    }

    public static void main(String[] args) {
        undo();
        changes();
        signum();
        compare();
        areEqual();
        length();
        signAt();
        lengthBy();
        signBy();
        longs();
        ints();
        bits();
        areLaws();
        checksum();
        finish(17);
    }
}
