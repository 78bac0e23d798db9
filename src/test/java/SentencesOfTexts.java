import java.math.BigInteger;

/** The sentences of promises 1 to 8: a new object, what is set, typed, read and copied. */
public final class SentencesOfTexts extends Sentences {
    private static final String NO_REGISTER = "Throws `IndexOutOfBoundsException` if there is no such register";
    private static final String TAKEN_AWAY = "the text is taken away";
    private static final String HAD = "Returns how many signs the text had";
    private static final String FULL = "0".repeat(199) + "7";
    private static final int[] NO_RADIXES = {1, 37, 0, -1, -2, -10, -36, 256 + 10, 65536 + 10, MIN, MAX};

    private static void newObject() {
        promise(1);
        says("Creates the registers, without a typed text", () -> {
            for (int i = 0; i < REGISTERS; i++) {
                int register = i;
                tells("0", bare(), x -> text(x, register, 10));
                tells(0, bare(), x -> x.signum(register));
            }
            answers(0, bare(), x -> x.erase());
            answers(0, bare(), x -> x.changes());
            answers(1, bare(), x -> x.type('7'));
            Biglaws used = with(3, 4).make();
            answers(0, bare(), x -> x.signum(0));
            answers(0, bare(), x -> x.erase());
            due("the used object's number", 4, number(used, 1));
        });
    }

    private static void set() {
        promise(2);
        says("Puts a number", () -> {
            changes(-1, with(5, -6), 1, 77, x -> x.set(1, 77));
            changes(1, with(5, -6), 0, 5, x -> x.set(0, 5));
        });
        says("any number", () -> {
            long[] numbers = {Long.MIN_VALUE, Long.MIN_VALUE + 1, -(1L << 60), -(1L << 30), -1, 0, 1, (1L << 30) - 1,
                1L << 30, 1L << 32, (1L << 60) - 1, 1L << 60, 1L << 62, Long.MAX_VALUE - 1, Long.MAX_VALUE};
            for (long number : numbers) {
                changes(0, with(3), 15, number, x -> x.set(15, number));
                changes(1, with(MOST), 0, number, x -> x.set(0, number));
            }
        });
        says("Returns the sign of the number that was there, -1, 0 or 1", () -> {
            for (BigInteger number : EDGES) {
                answers(number.signum(), with(number), x -> x.set(0, 9));
                answers(number.signum(), with(number), x -> x.set(0, -9));
            }
        });
        says(NO_REGISTER, () -> registers(with(3), (x, r) -> x.set(r, 4)));
    }

    private static void type() {
        promise(3);
        says("Types a sign behind the text", () -> {
            reads(bare().typed("-1").then(x -> x.type('2')), "-12", 3, -12, x -> x.read(3));
            reads(bare().typed("9-").then(x -> x.erase()).typed("12"), "12", 3, 12, x -> x.read(3));
            refuses(NumberFormatException.class, bare().typed("1").then(x -> x.type('-')), x -> x.read(3));
        });
        says("the sign, from the blank, 32, to the tilde, 126", () -> {
            for (char sign = 32; sign <= 126; sign++) {
                char each = sign;
                answers(1, bare(), x -> x.type(each));
                answers(3, bare().typed("12"), x -> x.type(each));
                int digit = Character.digit(sign, 36);
                Object want = digit < 0 ? NumberFormatException.class.getName() : 36 + digit;
                answers(want, bare().typed("1" + sign), x -> x.readBy(0, 36) == 2 ? number(x, 0) : "");
            }
        });
        says("Returns how many signs the text has then", () -> {
            for (int signs : new int[] {1, 2, 100, 149, 150, 151, 198, 199, 200}) {
                answers(signs, bare().typed("9".repeat(signs - 1)), x -> x.type('9'));
            }
            answers(1, bare().typed("999").then(x -> x.erase()), x -> x.type('9'));
            answers(1, bare().typed("999").then(x -> x.read(0)), x -> x.type('9'));
        });
        says("Throws `IllegalArgumentException` if there is no such sign", () -> {
            char[] signs = {0, 9, 10, 30, 31, 127, 128, 160, 256 + '5', 512 + ' ', 32768, 65535};
            for (char sign : signs) {
                refuses(IllegalArgumentException.class, with(3), x -> x.type(sign));
                refuses(IllegalArgumentException.class, bare(3), x -> x.type(sign));
                refuses(IllegalArgumentException.class, bare(3).typed(FULL), x -> x.type(sign));
            }
        });
        says("Throws `IllegalStateException` if it has 200", () -> {
            for (char sign : new char[] {' ', '0', '9', '-', 'z', '~'}) {
                answers(200, bare(3).typed(FULL.substring(1)), x -> x.type(sign));
                refuses(IllegalStateException.class, bare(3).typed(FULL), x -> x.type(sign));
            }
            answers(1, bare().typed(FULL).then(x -> x.erase()), x -> x.type('1'));
            answers(1, bare().typed(FULL).then(x -> x.read(0)), x -> x.type('1'));
        });
    }

    private static void erase() {
        promise(4);
        says("Takes the text away", () -> {
            for (String text : new String[] {"", "7", "-12x", FULL}) {
                Start start = bare(5).typed(text);
                same(start, x -> x.erase(), bare(5), x -> 0);
                answers(0, start.then(x -> x.erase()), x -> x.erase());
            }
        });
        says("Returns how many signs it had", () -> {
            for (int signs : new int[] {0, 1, 2, 150, 199, 200}) {
                answers(signs, bare().typed("~".repeat(signs)), x -> x.erase());
            }
        });
    }

    private static void readsDecimal(String text, String number) {
        Start start = bare(5, -6).typed(text);
        reads(start, text, 1, new BigInteger(number), x -> x.read(1));
    }

    private static void read() {
        promise(5);
        says("Puts the number that the text is by the radix 10", () -> {
            String[] texts = {"0", "7", "+7", "-7", "10", "1234567890", "-98765432109876543210", "+4611686018427387904"};
            for (String text : texts) {
                readsDecimal(text, text);
            }
            readsDecimal("-0", "0");
            readsDecimal("+00", "0");
            readsDecimal("-0012", "-12");
        });
        says(TAKEN_AWAY, () -> {
            same(bare(5).typed("12").then(x -> x.read(0)), x -> 0, bare(5), x -> x.set(0, 12));
            same(bare(5).typed("12").then(x -> x.read(0)).typed("3"), x -> x.read(1),
                    bare(5).then(x -> x.set(0, 12)), x -> x.set(1, 3));
        });
        says(HAD, () -> {
            for (String text : new String[] {"0", "5", "-5", "+5", "-0005", "0".repeat(200), FULL, MOST.toString()}) {
                answers(text.length(), bare().typed(text), x -> x.read(0));
            }
        });
        says(NO_REGISTER, () -> {
            registers(bare(3).typed("4"), (x, r) -> x.read(r));
            noRegisters(bare(3).typed("4x"), (x, r) -> x.read(r));
            noRegisters(bare(3), (x, r) -> x.read(r));
            noRegisters(bare(3).typed("9".repeat(151)), (x, r) -> x.read(r));
        });
        says("Throws `NumberFormatException` if it is no number by the radix 10", () -> {
            String[] texts = {"", "+", "-", "++1", "+-1", "-+1", "--1", "1-", "1+", "1-1", " ", " 1", "1 ", "1 1", "a", "1a",
                "A", "-a", "/", ":", "0x1", "1.0", "1,0", "1e3", "1_0", "1l", "9".repeat(199) + "-", "-" + "9".repeat(198) + "a"};
            for (String text : texts) {
                refuses(NumberFormatException.class, bare(3, 4).typed(text), x -> x.read(1));
            }
        });
        says("Throws `IllegalStateException` if it has too many digits, those 0 ahead of others not counted", () -> {
            String[] signs = {"", "+", "-"};
            for (String sign : signs) {
                readsDecimal(sign + MOST, sign + MOST);
                readsDecimal(sign + "0".repeat(49) + MOST, sign + MOST);
                readsDecimal(sign + "0".repeat(49) + ten(149), sign + ten(149));
                readsDecimal(sign + "0".repeat(199), "0");
                for (String digits : new String[] {LIMIT.toString(), "9".repeat(151), "0".repeat(48) + LIMIT, "1".repeat(199)}) {
                    refuses(IllegalStateException.class, bare(3, 4).typed(sign + digits), x -> x.read(1));
                }
            }
        });
    }

    private static void readsBy(String text, int radix) {
        reads(bare(5, -6).typed(text), text, 1, new BigInteger(text, radix), x -> x.readBy(1, radix));
    }

    private static void readBy() {
        promise(6);
        says("Puts the number that the text is by a radix", () -> {
            for (int radix = 2; radix <= 36; radix++) {
                String most = Integer.toString(radix - 1, 36);
                readsBy("10", radix);
                readsBy("-" + most, radix);
                readsBy("+0" + most.toUpperCase() + "01" + most, radix);
            }
        });
        says(TAKEN_AWAY, () -> {
            same(bare(5).typed("zz").then(x -> x.readBy(0, 36)), x -> 0, bare(5), x -> x.set(0, 35 * 37));
            same(bare(5).typed("12").then(x -> x.readBy(0, 3)).typed("3"), x -> x.readBy(1, 4),
                    bare(5).then(x -> x.set(0, 5)), x -> x.set(1, 3));
        });
        says(HAD, () -> {
            for (String text : new String[] {"0", "1", "-1", "+1", "-0001", "1".repeat(200), "0".repeat(200)}) {
                answers(text.length(), bare().typed(text), x -> x.readBy(0, 2));
            }
        });
        says(NO_REGISTER, () -> {
            registers(bare(3).typed("4x"), (x, r) -> x.readBy(r, 36));
            noRegisters(bare(3).typed("4x"), (x, r) -> x.readBy(r, 33), (x, r) -> x.readBy(r, 37), (x, r) -> x.readBy(r, 1));
            noRegisters(bare(3), (x, r) -> x.readBy(r, 36));
            noRegisters(bare(3).typed("z".repeat(200)), (x, r) -> x.readBy(r, 36));
        });
        says("Throws `NumberFormatException` if the radix is not 2 to 36, or the text is no number by it",
                SentencesOfTexts::refusedByRadix);
        says("Throws `IllegalStateException` if the number has too many decimal digits", () -> {
            for (int radix = 6; radix <= 36; radix++) {
                int by = radix;
                readsBy(MOST.toString(radix), radix);
                readsBy(LEAST.toString(radix).toUpperCase(), radix);
                refuses(IllegalStateException.class, bare(3).typed(LIMIT.toString(radix)), x -> x.readBy(1, by));
                refuses(IllegalStateException.class, bare(3).typed(LIMIT.negate().toString(radix)), x -> x.readBy(1, by));
                refuses(IllegalStateException.class, bare(3).typed("5".repeat(200)), x -> x.readBy(1, by));
            }
            for (int radix = 2; radix <= 5; radix++) {
                readsBy(Integer.toString(radix - 1).repeat(200), radix);
            }
            readsBy("0".repeat(103) + MOST.toString(36), 36);
            refuses(IllegalStateException.class, bare(3).typed("z".repeat(200)), x -> x.readBy(1, 36));
        });
    }

    private static void refusedByRadix() {
        for (String text : new String[] {"", "1", "-", "1 ", "z".repeat(200)}) {
            refuses(NumberFormatException.class, bare(3).typed(text), (x, radix) -> x.readBy(1, radix), NO_RADIXES);
        }
        for (int radix = 2; radix <= 36; radix++) {
            int by = radix;
            String noDigit = radix < 36 ? Integer.toString(radix, 36) : "{";
            answers(1, bare().typed("1"), x -> x.readBy(1, by));
            String[] texts = {"", "-", "+", "--1", "1-", " 1", "1 ", "/", ":", "@", "[", "`", "{", noDigit,
                "1" + noDigit.toUpperCase(), noDigit + "1", "-" + noDigit, "1".repeat(199) + noDigit};
            for (String text : texts) {
                refuses(NumberFormatException.class, bare(3).typed(text), x -> x.readBy(1, by));
            }
        }
    }

    private static void copy() {
        promise(7);
        says("Puts the number of a register into another one, or the same", () -> {
            changes(-1, with(5, -6), 2, -6, x -> x.copy(2, 1));
            changes(1, with(MOST, -6), 1, MOST, x -> x.copy(1, 0));
            changes(0, with(MOST, -6), 1, 0, x -> x.copy(1, 9));
            changes(-1, with(5, -6), 1, -6, x -> x.copy(1, 1));
            changes(-1, with(5, LEAST).then(x -> x.copy(3, 1)), 1, 8, x -> x.set(1, 8));
        });
        says("Returns the sign of the number", () -> {
            for (BigInteger number : EDGES) {
                puts(number, with(7, number), 0, x -> x.copy(0, 1));
                puts(number, with(-7, number), 0, x -> x.copy(0, 1));
                puts(number, with(number), 0, x -> x.copy(0, 0));
            }
        });
        says(NO_REGISTER + ", for either", () -> {
            registers(with(3, 4), (x, r) -> x.copy(r, 0), (x, r) -> x.copy(0, r), (x, r) -> x.copy(r, r));
        });
    }

    private static void constant() {
        promise(8);
        int[] numbers = {0, 1, 2, 10};
        says("Puts one of the numbers that are always there", () -> {
            for (int number : numbers) {
                changes(Integer.signum(number), with(LEAST), 0, number, x -> x.constant(0, number));
            }
        });
        says("0, 1, 2 or 10, which is also the number", () -> {
            for (int number : numbers) {
                puts(number, with(-3), 15, x -> x.constant(15, number));
            }
            for (int which = -300; which <= 300; which++) {
                int each = which;
                boolean isThere = which == 0 || which == 1 || which == 2 || which == 10;
                Object want = isThere ? Integer.signum(which) : IllegalArgumentException.class.getName();
                answers(want, bare(), x -> x.constant(0, each));
            }
        });
        says("Returns the sign of the number", () -> {
            for (int number : numbers) {
                answers(Integer.signum(number), with(-3), x -> x.constant(0, number));
                answers(Integer.signum(number), with(3), x -> x.constant(0, number));
            }
        });
        says(NO_REGISTER, () -> {
            registers(with(3), (x, r) -> x.constant(r, 0), (x, r) -> x.constant(r, 10));
            noRegisters(with(3), (x, r) -> x.constant(r, 3), (x, r) -> x.constant(r, -1));
        });
        says("Throws `IllegalArgumentException` if there is no such number", () -> {
            refuses(IllegalArgumentException.class, with(3), (x, which) -> x.constant(0, which),
                    -1, 3, 9, 11, -2, -10, 4, 5, 16, 256, 256 + 1, 65536 + 2, MIN, MIN + 10, MAX);
        });
    }

    public static void main(String[] args) {
        newObject();
        set();
        type();
        erase();
        read();
        readBy();
        copy();
        constant();
        finish(8);
    }
}
