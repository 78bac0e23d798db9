import java.io.IOException;
import java.io.UncheckedIOException;
import java.math.BigInteger;
import java.nio.file.Files;
import java.nio.file.Path;
import java.util.NoSuchElementException;
import java.util.regex.Matcher;
import java.util.regex.Pattern;

/** The sentences of the document's terms, which bind several promises. */
public final class SentencesOfTerms extends Sentences {
    private static final Path SOURCE = Path.of("src/main/java/Biglaws.java");
    private static final Class<?> STATE = IllegalStateException.class;
    private static final Class<?> REGISTER = IndexOutOfBoundsException.class;
    private static final Class<?> ARITHMETIC = ArithmeticException.class;
    private static final Class<?> ARGUMENT = IllegalArgumentException.class;
    private static final Class<?> NUMBER = NumberFormatException.class;
    private static final Class<?> NONE = NoSuchElementException.class;

    /** Three of them have a product of at most 150 digits. */
    private static final BigInteger[] FACTORS = {big(0), big(1), big(-1), big(2), big(-7), two(29), two(30).subtract(ONE), two(30).negate(),
        two(60).subtract(ONE), big(Long.MIN_VALUE), two(90), ten(49), ten(49).negate()};

    private static final int[] RADIXES = {2, 3, 7, 8, 9, 10, 11, 16, 32, 35, 36};

    private static void numbers() {
        says("The numbers are a ring with an order: sums and products are the same in any order and grouping, and a product with a sum is "
                + "the sum of the products", () -> {
            for (BigInteger a : FACTORS) {
                for (BigInteger b : FACTORS) {
                    for (BigInteger c : FACTORS) {
                        ring(bare(a, b, c).make());
                        order(a, b, bare(a, b, c).make());
                    }
                }
            }
        });
        says("For each number a and each number b but 0, a is the quotient times b and the remainder more, and the remainder is nearer to 0 "
                + "than b, and has the sign of a, or is 0", () -> {
            for (BigInteger a : EDGES) {
                for (BigInteger b : EDGES) {
                    if (b.signum() != 0) {
                        division(bare(a, b).make());
                    }
                }
            }
        });
        says("For each m above 0 there is just one of the numbers 0 to m less 1 that differs from a by a multiple of m", () -> {
            for (BigInteger a : EDGES) {
                for (BigInteger m : EDGES) {
                    if (m.signum() > 0) {
                        residue(bare(a, m).make());
                    }
                }
            }
        });
        says("The greatest common divisor of two numbers divides both, and each number that divides both divides it", () -> {
            for (int a = -36; a <= 36; a += 2) {
                for (int b = -36; b <= 36; b += 3) {
                    divisor(a, b);
                }
            }
            puts(ten(60).multiply(big(7)), bare(ten(60).multiply(big(21)), ten(60).multiply(big(-14))), 2, x -> x.gcd(2, 0, 1));
        });
    }

    private static void ring(Biglaws x) {
        x.add(3, 0, 1);
        x.add(4, 1, 0);
        due("a + b and b + a", true, x.areEqual(3, 4));
        x.add(3, 3, 2);
        x.add(4, 1, 2);
        x.add(4, 0, 4);
        due("(a + b) + c and a + (b + c)", true, x.areEqual(3, 4));
        x.multiply(5, 0, 1);
        x.multiply(6, 1, 0);
        due("a * b and b * a", true, x.areEqual(5, 6));
        x.multiply(7, 5, 2);
        x.multiply(6, 1, 2);
        x.multiply(6, 0, 6);
        due("(a * b) * c and a * (b * c)", true, x.areEqual(6, 7));
        x.multiply(6, 0, 2);
        x.add(6, 5, 6);
        x.add(7, 1, 2);
        x.multiply(7, 0, 7);
        due("a * (b + c) and a * b + a * c", true, x.areEqual(6, 7));
    }

    /** What is added to two numbers leaves their order, and so does what is above 0 and multiplies them. */
    private static void order(BigInteger a, BigInteger b, Biglaws x) {
        int order = x.compare(0, 1);
        due("compare", a.compareTo(b), order);
        x.add(3, 0, 2);
        x.add(4, 1, 2);
        due("the order of a + c and b + c", order, x.compare(3, 4));
        x.multiply(3, 0, 2);
        x.multiply(4, 1, 2);
        due("the order of a * c and b * c", order * x.signum(2), x.compare(3, 4));
    }

    private static void division(Biglaws x) {
        x.divideBoth(2, 3, 0, 1);
        x.multiply(4, 2, 1);
        x.add(4, 4, 3);
        due("quotient times b and remainder", true, x.areEqual(4, 0));
        x.abs(5, 3);
        x.abs(6, 1);
        due("the remainder against b", -1, x.compare(5, 6));
        due("the remainder's sign", x.signum(3) == 0 ? 0 : x.signum(0), x.signum(3));
        x.divide(7, 0, 1);
        x.remainder(8, 0, 1);
        due("the quotient", true, x.areEqual(2, 7));
        due("the remainder", true, x.areEqual(3, 8));
    }

    private static void residue(Biglaws x) {
        x.mod(2, 0, 1);
        due("not below 0", true, x.signum(2) >= 0);
        due("below m", -1, x.compare(2, 1));
        x.remainder(3, 0, 1);
        x.subtract(3, 3, 2);
        due("what differs, by m", 0, x.remainder(3, 3, 1));
    }

    private static void divisor(int a, int b) {
        Biglaws x = bare(a, b).make();
        x.gcd(2, 0, 1);
        int divisor = x.intExact(2);
        due("the divisor of " + a + " and " + b, a != 0 || b != 0, divisor > 0);
        for (int each = 1; each <= 40; each++) {
            boolean isCommon = a % each == 0 && b % each == 0;
            due("whether " + each + " divides the divisor of " + a + " and " + b, isCommon, divisor % each == 0);
        }
    }

    private static void registers() {
        says("There are the registers 0 to 15, with 0 in each at first", () -> {
            for (int each = 0; each < REGISTERS; each++) {
                int register = each;
                tells(0, bare(), x -> x.signum(register));
                tells("0", bare(), x -> text(x, register, 10));
                changes(0, bare(), register, 5, x -> x.set(register, 5));
            }
            noRegisters(bare(), (x, r) -> x.signum(r), (x, r) -> x.set(r, 5));
            refuses(REGISTER, bare(), (x, r) -> x.signum(r), -2, -16, 17, 256, 65536, MIN + 1, MAX - 1);
        });
        says("A number of a register has at most 150 decimal digits", () -> {
            for (BigInteger sign : new BigInteger[] {ONE, ONE.negate()}) {
                BigInteger most = MOST.multiply(sign);
                int told = sign.signum();
                reads(bare().typed(most.toString()), most.toString(), 0, most, x -> x.read(0));
                reads(bare().typed(most.toString(36)), most.toString(36), 0, most, x -> x.readBy(0, 36));
                changes(told, with(most.subtract(sign), sign), 2, most, x -> x.add(2, 0, 1));
                changes(told, with(most.subtract(sign), sign.negate()), 2, most, x -> x.subtract(2, 0, 1));
                changes(told, with(most.divide(big(9)), 9), 2, most, x -> x.multiply(2, 0, 1));
                changes(told, with(big(10).multiply(sign)), 2, ten(149).multiply(sign), x -> x.pow(2, 0, 149));
                changes(told, with(most, sign, sign.negate()), 3, most, x -> x.sum(3, 0, 2));
                changes(1, with(most, sign), 3, MOST, x -> x.product(3, 0, 1));
                changes(told, with(sign), 0, two(498).multiply(sign), x -> x.doubled(0, 498));
            }
        });
        says("what would have more is refused", () -> {
            for (BigInteger sign : new BigInteger[] {ONE, ONE.negate()}) {
                BigInteger most = MOST.multiply(sign);
                String text = LIMIT.multiply(sign).toString();
                refuses(STATE, bare(3).typed(text), x -> x.read(0));
                refuses(STATE, bare(3).typed(LIMIT.multiply(sign).toString(36)), x -> x.readBy(0, 36));
                refuses(STATE, with(most, sign), x -> x.add(2, 0, 1));
                refuses(STATE, with(most, sign.negate()), x -> x.subtract(2, 0, 1));
                refuses(STATE, with(ten(149).multiply(sign), 10), x -> x.multiply(2, 0, 1));
                refuses(STATE, with(big(10).multiply(sign)), x -> x.pow(2, 0, 150));
                refuses(STATE, with(most, 0, sign), x -> x.sum(3, 0, 2));
                refuses(STATE, with(ten(149).multiply(sign), 10), x -> x.product(3, 0, 1));
                refuses(STATE, with(sign), x -> x.doubled(0, 499));
            }
        });
    }

    private interface Three {
        Object on(Biglaws x, int p, int q, int r);
    }

    private interface Due {
        BigInteger of(BigInteger a, BigInteger b);
    }

    private static void sameRegisters() {
        says("Where a call tells several registers, some of them, or all, may be the same one: all numbers are looked at ahead of what is "
                + "put", () -> {
            anyOfTwo(BigInteger::add, (x, p, q, r) -> x.add(p, q, r));
            anyOfTwo(BigInteger::subtract, (x, p, q, r) -> x.subtract(p, q, r));
            anyOfTwo(BigInteger::multiply, (x, p, q, r) -> x.multiply(p, q, r));
            anyOfTwo(BigInteger::divide, (x, p, q, r) -> x.divide(p, q, r));
            anyOfTwo(BigInteger::remainder, (x, p, q, r) -> x.remainder(p, q, r));
            anyOfTwo(BigInteger::mod, (x, p, q, r) -> x.mod(p, q, r));
            anyOfTwo(BigInteger::gcd, (x, p, q, r) -> x.gcd(p, q, r));
            anyOfTwo(BigInteger::min, (x, p, q, r) -> x.min(p, q, r));
            anyOfTwo(BigInteger::max, (x, p, q, r) -> x.max(p, q, r));
            anyOfTwo((a, m) -> a.modPow(big(5), m), (x, p, q, r) -> x.modPow(p, q, 5, r));
            anyOfTwo((a, m) -> a.gcd(m).equals(ONE) ? a.modInverse(m) : null, (x, p, q, r) -> x.inverse(p, q, r));
            anyOfTwo((a, m) -> a.gcd(m).equals(ONE) ? a.modPow(big(-5), m) : null, (x, p, q, r) -> x.modPow(p, q, -5, r));
            anyOfTwo((a, b) -> a, (x, p, q, r) -> x.copy(p, q));
            anyOfTwo((a, b) -> a.negate(), (x, p, q, r) -> x.negate(p, q));
            anyOfTwo((a, b) -> a.abs(), (x, p, q, r) -> x.abs(p, q));
            anyOfTwo((a, b) -> a.sqrt(), (x, p, q, r) -> x.root(p, q));
            anyOfTwo((a, b) -> a.pow(3), (x, p, q, r) -> x.pow(p, q, 3));
            both();
            folds();
            laws();
        });
    }

    private static final BigInteger[] THREE = {two(64).add(big(13)), big(30), two(33).subtract(ONE)};

    private static void anyOfTwo(Due due, Three call) {
        for (int i = 0; i < 27; i++) {
            int p = i % 3;
            int q = i / 3 % 3;
            int r = i / 9;
            BigInteger want = due.of(THREE[q], THREE[r]);
            if (want != null) {
                changes(want.signum(), with((Object[]) THREE), p, want, x -> call.on(x, p, q, r));
            }
        }
    }

    private static void both() {
        for (int i = 0; i < 81; i++) {
            int p = i % 3;
            int other = i / 3 % 3;
            int q = i / 9 % 3;
            int r = i / 27;
            BigInteger[] want = THREE[q].divideAndRemainder(THREE[r]);
            if (p != other) {
                BigInteger[] numbers = THREE.clone();
                numbers[p] = want[0];
                numbers[other] = want[1];
                Biglaws x = with((Object[]) THREE).make();
                x.divideBoth(p, other, q, r);
                for (int k = 0; k < 3; k++) {
                    due("register " + k, numbers[k], number(x, k));
                }
            }
        }
    }

    private static void folds() {
        for (int i = 0; i < 27; i++) {
            int p = i % 3;
            int first = i / 3 % 3;
            int last = i / 9;
            BigInteger sum = BigInteger.ZERO;
            BigInteger product = ONE;
            for (int k = first; k <= last; k++) {
                sum = sum.add(THREE[k]);
                product = product.multiply(THREE[k]);
            }
            changes(sum.signum(), with((Object[]) THREE), p, sum, x -> x.sum(p, first, last));
            changes(product.signum(), with((Object[]) THREE), p, product, x -> x.product(p, first, last));
        }
    }

    private static void laws() {
        for (int i = 0; i < 27; i++) {
            int a = i % 3;
            int b = i / 3 % 3;
            int c = i / 9;
            tells(true, with((Object[]) THREE), x -> x.areLaws(a, b, c));
            tells(a == b, with((Object[]) THREE), x -> x.areEqual(a, b));
            tells(THREE[a].compareTo(THREE[b]), with((Object[]) THREE), x -> x.compare(a, b));
        }
    }

    private static void quotientsAndPowers() {
        says("The quotient of two numbers is cut toward 0", () -> {
            for (int a = -15; a <= 15; a++) {
                for (int b = -6; b <= 6; b++) {
                    if (b != 0) {
                        puts(a / b, bare(a, b), 2, x -> x.divide(2, 0, 1));
                        Biglaws x = bare(a, b).make();
                        x.divideBoth(2, 3, 0, 1);
                        due("the quotient of " + a + " and " + b, a / b, number(x, 2));
                    }
                }
            }
            puts(-1, bare(MOST, MOST.subtract(ONE).negate()), 2, x -> x.divide(2, 0, 1));
            puts(0, bare(MOST.subtract(ONE), LEAST), 2, x -> x.divide(2, 0, 1));
        });
        says("A power by 0 is 1, that of 0, too", () -> {
            for (BigInteger number : EDGES) {
                changes(1, with(number), 2, 1, x -> x.pow(2, 0, 0));
                changes(1, with(number, 2), 2, 1, x -> x.modPow(2, 0, 0, 1));
                changes(1, with(number, MOST), 2, 1, x -> x.modPow(2, 0, 0, 1));
                changes(0, with(number, 1), 2, 0, x -> x.modPow(2, 0, 0, 1));
            }
            changes(1, bare(), 0, 1, x -> x.pow(0, 0, 0));
        });
    }

    private static void texts() {
        says("The text of a number, read again by the same radix, is the number", () -> {
            BigInteger[] more = {big(-35), big(36), ten(40).add(ONE), ten(59).negate(), two(198).negate(), MOST, LEAST, two(498)};
            for (BigInteger number : more) {
                for (int radix = 2; radix <= 36; radix++) {
                    readsAgain(number, radix);
                }
            }
            for (BigInteger number : EDGES) {
                for (int radix : RADIXES) {
                    readsAgain(number, radix);
                }
            }
        });
        says("A digit by a radix, 2 to 36, has one sign: 0 to 9, then a to z, in texts that are read A to Z as well", () -> {
            String small = "0123456789abcdefghijklmnopqrstuvwxyz";
            for (int radix = 2; radix <= 36; radix++) {
                for (int digit = 0; digit < 36; digit++) {
                    digit(radix, digit, small.charAt(digit));
                }
            }
        });
        says("A text that is read is a number by a radix if it is one digit or more by this radix, perhaps with one sign ahead, + or -, "
                + "and nothing else", () -> {
            for (int radix : RADIXES) {
                textsOfTwo(radix, false);
            }
            textsOfTwo(10, true);
            for (String text : new String[] {"+-5", "-+5", "--5", "5-5", "5+5", "-5-", "+5+", "- 5", " -5", "-5 ", "5.5", "1/2", "1-0"}) {
                answers(NUMBER.getName(), bare().typed(text), x -> x.read(0));
                answers(NUMBER.getName(), bare().typed(text), x -> x.readBy(0, 36));
            }
        });
        says("The text of a number by a radix has no 0 ahead of its other digits, no sign + and, if the number is below 0, a - ahead", () -> {
            for (int each = 2; each <= 36; each++) {
                int radix = each;
                tells("10", bare().typed("+0010").then(x -> x.readBy(0, radix)), x -> text(x, 0, radix));
                tells("-101", bare().typed("-000101").then(x -> x.readBy(0, radix)), x -> text(x, 0, radix));
                tells("1", bare().typed("+1").then(x -> x.readBy(0, radix)), x -> text(x, 0, radix));
                tells("-1", with(-1), x -> text(x, 0, radix));
                for (BigInteger number : EDGES) {
                    spellsAs(number.toString(radix), bare(number), radix);
                }
            }
        });
        says("that of 0 is 0", () -> {
            for (int each = 2; each <= 36; each++) {
                int radix = each;
                tells("0", bare(), x -> text(x, 7, radix));
                tells("0", bare().typed("-000").then(x -> x.readBy(7, radix)), x -> text(x, 7, radix));
                tells("0", with(LEAST).then(x -> x.subtract(7, 0, 0)), x -> text(x, 7, radix));
                tells("0", with(-3).then(x -> x.multiply(7, 0, 9)), x -> text(x, 7, radix));
                tells("0", with(-3).then(x -> x.divideBoth(7, 0, 0, 0)).then(x -> x.negate(7, 0)), x -> text(x, 7, radix));
            }
        });
    }

    /** Texts above 200 signs can't be typed. */
    private static void readsAgain(BigInteger number, int radix) {
        String text = number.toString(radix);
        if (text.length() <= 200) {
            spellsAs(text, bare(number), radix);
            Biglaws x = bare().typed(text).make();
            due("the signs of " + text, text.length(), x.readBy(3, radix));
            due("the number of " + text, number, number(x, 3));
        }
    }

    /** The text is asked for of several objects, 200 signs of each. */
    private static void spellsAs(String text, Start start, int radix) {
        Biglaws x = start.make();
        due("the length by " + radix, text.length(), x.lengthBy(0, radix));
        for (int i = 0; i < text.length(); i++) {
            if (i % 200 == 199) {
                x = start.make();
            }
            due("the sign " + i + " by " + radix, text.charAt(i), x.signBy(0, radix, i));
        }
    }

    private static void digit(int radix, int digit, char sign) {
        for (char each : new char[] {sign, Character.toUpperCase(sign)}) {
            Biglaws x = bare().typed("1" + each).make();
            String got = outcome(x, y -> y.readBy(0, radix));
            due("the digit " + each + " by " + radix, digit < radix ? "2" : NUMBER.getName(), got);
            if (digit < radix) {
                due("the number", radix + digit, number(x, 0));
                due("the signs", 2, x.lengthBy(0, radix));
                due("the sign", sign, x.signBy(0, radix, 1));
            }
        }
    }

    /** All texts of two signs, or those of one, and none; each object reads 32 of them. */
    private static void textsOfTwo(int radix, boolean isDecimal) {
        for (char first = 32; first <= 127; first++) {
            Biglaws x = new Biglaws();
            for (char second = 32; second <= 126; second++) {
                String text = first > 126 ? "" + second : "" + first + second;
                boolean isNumber = isNumber(text, radix);
                x = second % 32 == 0 ? new Biglaws() : x;
                x.erase();
                type(x, text);
                String got = outcome(x, y -> isDecimal ? y.read(3) : y.readBy(3, radix));
                due("'" + text + "' by " + radix, isNumber ? text.length() : NUMBER.getName(), got);
                if (isNumber) {
                    due("the number of '" + text + "'", new BigInteger(text, radix), x.longValue(3));
                }
            }
        }
        answers(NUMBER.getName(), bare(), x -> isDecimal ? x.read(3) : x.readBy(3, radix));
    }

    private static boolean isNumber(String text, int radix) {
        int first = text.startsWith("+") || text.startsWith("-") ? 1 : 0;
        for (int i = first; i < text.length(); i++) {
            if (Character.digit(text.charAt(i), radix) < 0) {
                return false;
            }
        }
        return first < text.length();
    }

    /** Each call by which numbers are put, here so that registers have what they had. */
    private static final Call[] CHANGES_TO_THE_SAME = {
        x -> x.set(0, 1), x -> x.type('1') + x.read(0), x -> x.type('1') + x.readBy(0, 2), x -> x.copy(0, 0), x -> x.copy(0, 1),
        x -> x.constant(0, 1), x -> x.add(0, 0, 2), x -> x.subtract(0, 0, 2), x -> x.multiply(0, 0, 0), x -> x.divide(0, 0, 0),
        x -> x.remainder(2, 0, 0), x -> x.divideBoth(0, 2, 0, 1), x -> x.mod(2, 0, 0), x -> x.negate(2, 2), x -> x.abs(0, 0),
        x -> x.pow(0, 0, 9), x -> x.modPow(2, 0, 5, 1), x -> x.inverse(2, 0, 1), x -> x.gcd(0, 0, 1), x -> x.min(0, 0, 1),
        x -> x.max(0, 0, 2), x -> x.root(0, 0), x -> x.sum(0, 0, 0), x -> x.sum(2, 1, 0), x -> x.product(0, 0, 1), x -> x.product(0, 1, 0),
        x -> x.doubled(0, 0), x -> x.doubled(2, 600), x -> x.halved(0, 0), x -> x.halved(2, 600)};

    private static final Call[] NO_CHANGES = {
        x -> x.type('1'), x -> x.erase(), x -> x.changes(), x -> x.signum(0), x -> x.compare(0, 1), x -> x.areEqual(0, 1), x -> x.length(0),
        x -> x.signAt(0, 0), x -> x.lengthBy(0, 2), x -> x.signBy(0, 2, 0), x -> x.longValue(0), x -> x.longExact(0), x -> x.intValue(0),
        x -> x.intExact(0), x -> x.bitLength(0), x -> x.testBit(0, 0), x -> x.areLaws(0, 1, 2), x -> x.checksum()};

    private static void changes() {
        says("A change is a call by which numbers are put into registers, also if they were there already", () -> {
            for (Call call : CHANGES_TO_THE_SAME) {
                Start start = bare(1, 1).then(call);
                answers("1 1 0", start, x -> x.intExact(0) + " " + x.intExact(1) + " " + x.intExact(2));
                answers(3, start, x -> x.changes());
                answers(2, start, x -> x.undo());
                same(start, x -> x.undo(), bare(1, 1), x -> 0);
            }
            for (Call call : NO_CHANGES) {
                answers(2, bare(1, 1).then(call), x -> x.changes());
                answers(20, full().then(call), x -> x.changes());
            }
            answers(1, bare(1, 1).then(x -> x.undo()), x -> x.changes());
        });
        says("the last 20 can be taken back, the latest one first", () -> {
            for (int changes = 1; changes <= 43; changes++) {
                Biglaws x = numbered(changes).make();
                int most = Math.min(changes, 20);
                for (int taken = 1; taken <= most; taken++) {
                    due("undo", most - taken, x.undo());
                    isNumbered(x, changes - taken);
                }
                due("one undo more", NONE.getName(), outcome(x, y -> y.undo()));
                isNumbered(x, changes - most);
            }
            divideBothCountsOnce();
            whatFellOutStaysOut();
        });
        says("what is typed is no change, and is not taken back", () -> {
            tells(0, bare().typed("12"), x -> x.changes());
            refuses(NONE, bare().typed("12"), x -> x.undo());
            same(bare(5).typed("12"), x -> x.undo(), bare().typed("12"), x -> 0);
            same(bare(5).typed("12").then(x -> x.erase()), x -> x.undo(), bare(), x -> 0);
            same(bare(5).typed("12").then(x -> x.read(0)), x -> x.undo(), bare(5), x -> 0);
            same(bare(5).typed("12").then(x -> x.readBy(0, 3)).typed("7"), x -> x.undo(), bare(5).typed("7"), x -> 0);
            same(bare(5).typed("12").then(x -> x.set(0, 6)).typed("34"), x -> x.undo(), bare(5).typed("1234"), x -> 0);
        });
    }

    /** After so many changes, the k-th of which puts k into register k modulo 16. */
    private static Start numbered(int changes) {
        Start start = new Start();
        for (int i = 1; i <= changes; i++) {
            int number = i;
            start.then(x -> x.set(number % REGISTERS, number));
        }
        return start;
    }

    private static void isNumbered(Biglaws x, int changes) {
        for (int register = 0; register < REGISTERS; register++) {
            int latest = changes - Math.floorMod(changes - register, REGISTERS);
            due("register " + register + " as after " + changes + " changes", Math.max(latest, 0), x.intExact(register));
        }
    }

    private static void divideBothCountsOnce() {
        Start start = bare(17, 5);
        for (int i = 0; i < 21; i++) {
            start.then(x -> x.divideBoth(2, 3, 0, 1));
        }
        answers(20, start, x -> x.changes());
        for (int left = 19; left >= 0; left--) {
            answers(left, start, x -> x.undo());
            start.then(x -> x.undo());
        }
        answers("3 2", start, x -> x.intExact(2) + " " + x.intExact(3));
        refuses(NONE, start, x -> x.undo());
    }

    /** Of 25 changes the first 5 can't be taken back any more, also if there is room again. */
    private static void whatFellOutStaysOut() {
        Biglaws x = numbered(25).make();
        for (int left = 19; left >= 15; left--) {
            due("undo", left, x.undo());
        }
        for (int i = 16; i <= 19; i++) {
            x.set(0, 77);
            due("changes", i, x.changes());
        }
        for (int left = 18; left >= 0; left--) {
            due("undo", left, x.undo());
        }
        isNumbered(x, 5);
        due("one undo more", NONE.getName(), outcome(x, y -> y.undo()));
    }

    /** No more changes can be kept, something is typed, and there is a number for each refusal. */
    private static Start ready() {
        Start start = bare(1, 7, 14, 0, -5, MOST, 10, LEAST, 1, 2, 3, 4, 5, 6, -7, -8);
        for (int i = 0; i < 9; i++) {
            int number = 100 + i;
            start.then(x -> x.set(0, number));
        }
        return start;
    }

    private static void refusesAll(Class<?> exception, Call... calls) {
        Start start = ready().typed("-4t");
        for (Call call : calls) {
            refuses(exception, start, call);
        }
    }

    private static void refusals() {
        says("A method that throws an exception changes nothing", () -> {
            refusesAll(REGISTER, x -> x.set(16, 5), x -> x.read(16), x -> x.readBy(16, 36), x -> x.copy(16, 0), x -> x.copy(0, 16),
                    x -> x.constant(16, 1), x -> x.add(0, 1, 16), x -> x.subtract(0, 16, 1), x -> x.multiply(16, 0, 1),
                    x -> x.divide(0, 1, 16), x -> x.remainder(0, 16, 1), x -> x.divideBoth(0, 16, 1, 2), x -> x.divideBoth(0, 1, 2, 16),
                    x -> x.mod(0, 1, 16), x -> x.negate(0, 16), x -> x.abs(16, 0), x -> x.pow(0, 16, 2), x -> x.modPow(0, 1, 2, 16),
                    x -> x.inverse(0, 16, 1), x -> x.gcd(0, 1, 16), x -> x.min(0, 16, 1), x -> x.max(16, 0, 1), x -> x.root(0, 16),
                    x -> x.sum(0, 1, 16), x -> x.product(0, 16, 1), x -> x.doubled(16, 1), x -> x.halved(16, 1));
            refusesAll(REGISTER, x -> x.signum(16), x -> x.compare(0, 16), x -> x.areEqual(16, 0), x -> x.length(16), x -> x.signAt(16, 0),
                    x -> x.signAt(5, 150), x -> x.lengthBy(16, 2), x -> x.signBy(16, 2, 0), x -> x.signBy(5, 2, 499),
                    x -> x.longValue(16), x -> x.longExact(16), x -> x.intValue(16), x -> x.intExact(16), x -> x.bitLength(16),
                    x -> x.testBit(16, 0), x -> x.areLaws(0, 1, 16));
            refusesAll(NUMBER, x -> x.read(0), x -> x.readBy(0, 29), x -> x.readBy(0, 37));
            refusesAll(ARGUMENT, x -> x.type((char) 31), x -> x.type((char) 127), x -> x.constant(0, 3), x -> x.divideBoth(0, 0, 1, 2),
                    x -> x.doubled(0, 601), x -> x.halved(0, -1));
            refusesAll(ARITHMETIC, x -> x.divide(0, 1, 3), x -> x.remainder(0, 1, 3), x -> x.divideBoth(0, 1, 2, 3), x -> x.mod(0, 1, 4),
                    x -> x.pow(0, 1, -1), x -> x.modPow(0, 1, 1, 3), x -> x.modPow(0, 1, -1, 2), x -> x.inverse(0, 1, 4),
                    x -> x.inverse(0, 1, 2), x -> x.root(0, 4), x -> x.longExact(5), x -> x.intExact(5), x -> x.testBit(5, -1));
            refusesAll(STATE, x -> x.add(0, 5, 1), x -> x.subtract(0, 7, 1), x -> x.multiply(0, 5, 7), x -> x.pow(0, 6, 150),
                    x -> x.sum(0, 5, 6), x -> x.product(0, 5, 6), x -> x.doubled(5, 1));
            refuses(STATE, ready().typed("9".repeat(151)), x -> x.read(0));
            refuses(STATE, ready().typed("z".repeat(120)), x -> x.readBy(0, 36));
            refuses(STATE, ready().typed("~".repeat(200)), x -> x.type('5'));
            refuses(NONE, bare().typed("-4t"), x -> x.undo());
        });
        says("If several exceptions apply, the one that is documented first is thrown", () -> {
            refuses(ARGUMENT, ready().typed("5".repeat(200)), x -> x.type((char) 31));
            for (String text : new String[] {"", "-4t", "z".repeat(200), "9".repeat(200)}) {
                refuses(REGISTER, ready().typed(text), x -> x.read(16));
                refuses(REGISTER, ready().typed(text), x -> x.readBy(16, 36));
                refuses(REGISTER, ready().typed(text), x -> x.readBy(-1, 37));
                refuses(NUMBER, ready().typed(text), x -> x.readBy(0, 37));
            }
            refusesAll(REGISTER, x -> x.constant(16, 3), x -> x.add(16, 5, 6), x -> x.subtract(16, 7, 6), x -> x.multiply(16, 5, 5),
                    x -> x.divide(16, 1, 3), x -> x.divide(0, 16, 3), x -> x.remainder(16, 1, 3), x -> x.remainder(0, 16, 3),
                    x -> x.divideBoth(16, 16, 1, 2), x -> x.divideBoth(0, 0, 16, 3), x -> x.divideBoth(0, 0, 1, 16),
                    x -> x.divideBoth(16, 0, 1, 3), x -> x.divideBoth(0, 16, 1, 3), x -> x.divideBoth(0, 1, 16, 3));
            refusesAll(REGISTER, x -> x.mod(16, 1, 3), x -> x.mod(0, 16, 4), x -> x.pow(16, 1, -1), x -> x.pow(0, 16, -1),
                    x -> x.pow(16, 6, 150), x -> x.modPow(16, 1, 1, 3), x -> x.modPow(0, 16, -1, 4), x -> x.modPow(16, 1, -1, 2),
                    x -> x.inverse(16, 1, 2), x -> x.inverse(0, 16, 3), x -> x.root(16, 4), x -> x.sum(16, 5, 6), x -> x.sum(16, 6, 5),
                    x -> x.product(16, 5, 6), x -> x.product(16, 6, 5), x -> x.doubled(16, 601), x -> x.doubled(16, 600),
                    x -> x.halved(16, 601), x -> x.testBit(16, -1));
            refusesAll(ARGUMENT, x -> x.divideBoth(0, 0, 1, 3), x -> x.divideBoth(3, 3, 3, 3), x -> x.doubled(5, 601), x -> x.doubled(5, -1));
        });
    }

    private static final String PUTS = "set type erase read readBy copy constant add subtract multiply divide remainder divideBoth mod negate "
            + "abs pow modPow inverse gcd min max root sum product doubled halved undo";
    private static final String ASKS = "changes signum compare areEqual length signAt lengthBy signBy longValue longExact intValue intExact "
            + "bitLength testBit areLaws checksum";

    private static String ahead(String calls, String said) {
        return "Ahead of the calls `" + calls.replace(" ", "`, `") + "` the interface says: " + said;
    }

    private static void headings() {
        says(ahead(PUTS, "what is put"), () -> standBehind("// What is put.", PUTS, "// What is asked."));
        says(ahead(ASKS, "what is asked"), () -> standBehind("// What is asked.", ASKS, "\n    private "));
    }

    private static void standBehind(String heading, String calls, String next) {
        try {
            String source = Files.readString(SOURCE);
            int start = source.indexOf(heading);
            int end = source.indexOf(next, Math.max(start, 0));
            for (String call : calls.split(" ")) {
                Matcher head = Pattern.compile("public \\w+ " + call + "\\(").matcher(source);
                due("where " + call + " stands", true, start >= 0 && head.find(start) && head.start() < end);
            }
        } catch (IOException e) {
            throw new UncheckedIOException(e);
        }
    }

    public static void main(String[] args) {
        terms();
        numbers();
        registers();
        sameRegisters();
        quotientsAndPowers();
        texts();
        changes();
        refusals();
        headings();
        finish(1);
    }
}
