import java.math.BigInteger;
import java.util.NoSuchElementException;

/** Each promise of the document by itself: ordinary inputs, the edges that it names, wrong inputs. */
public final class BiglawsPromises {
    private static final BigInteger MOST = BigInteger.TEN.pow(150).subtract(BigInteger.ONE);
    private static final int[] NO_REGISTERS = {-1, 16, Integer.MIN_VALUE, Integer.MAX_VALUE};
    private static int wrong = 0;
    private static int promise = 0;

    private interface Call {
        void run();
    }

    private interface WithRegister {
        void run(int register);
    }

    private static void due(String what, Object want, Object got) {
        if (!want.equals(got)) {
            wrong++;
            System.out.println("promise " + promise + ": " + what + " answered " + got + ", due is " + want);
        }
    }

    private static void refused(String what, Class<?> want, Call call) {
        Object got = "an answer";
        try {
            call.run();
        } catch (RuntimeException e) {
            got = e.getClass();
        }
        due(what, want, got);
    }

    /** The exception is due, and the whole state is to be as it was. */
    private static void refused(String what, Class<?> want, Biglaws x, Call call) {
        String before = state(x);
        refused(what, want, call);
        due(what + " changed", before, state(x));
    }

    private static void outOfRange(String what, Biglaws x, WithRegister call) {
        for (int register : NO_REGISTERS) {
            refused(what + " with register " + register, IndexOutOfBoundsException.class, x, () -> call.run(register));
        }
    }

    private static String state(Biglaws x) {
        StringBuilder all = new StringBuilder();
        for (int i = 0; i < 16; i++) {
            all.append(text(x, i, 10)).append(' ');
        }
        return all.append(x.changes()).toString();
    }

    private static String text(Biglaws x, int register, int radix) {
        StringBuilder all = new StringBuilder();
        int signs = x.lengthBy(register, radix);
        for (int i = 0; i < signs; i++) {
            all.append(x.signBy(register, radix, i));
        }
        return all.toString();
    }

    private static BigInteger number(Biglaws x, int register) {
        return new BigInteger(text(x, register, 36), 36);
    }

    private static void type(Biglaws x, String text) {
        for (int i = 0; i < text.length(); i++) {
            x.type(text.charAt(i));
        }
    }

    private static void load(Biglaws x, int register, BigInteger number) {
        x.erase();
        type(x, number.toString(36));
        x.readBy(register, 36);
    }

    private static BigInteger big(long number) {
        return BigInteger.valueOf(number);
    }

    private static BigInteger big(String number) {
        return new BigInteger(number);
    }

    private static BigInteger two(int n) {
        return BigInteger.ONE.shiftLeft(n);
    }

    /** An object with the numbers in its registers from 0 on. */
    private static Biglaws with(long... numbers) {
        Biglaws x = new Biglaws();
        for (int i = 0; i < numbers.length; i++) {
            x.set(i, numbers[i]);
        }
        return x;
    }

    private static Biglaws with(BigInteger... numbers) {
        Biglaws x = new Biglaws();
        for (int i = 0; i < numbers.length; i++) {
            load(x, i, numbers[i]);
        }
        return x;
    }

    private static void promise1() {
        Biglaws x = new Biglaws();
        for (int i = 0; i < 16; i++) {
            due("the number at first", BigInteger.ZERO, number(x, i));
        }
        due("changes() at first", 0, x.changes());
        due("the text at first", 0, x.erase());
        x.set(3, 4);
        due("another object", BigInteger.ZERO, number(new Biglaws(), 3));
    }

    private static void promise2() {
        Biglaws x = new Biglaws();
        long[] numbers = {5, -7, 0, 1L << 30, 1L << 60, -(1L << 60), Long.MAX_VALUE, Long.MIN_VALUE};
        int before = 0;
        for (long number : numbers) {
            due("set(15, " + number + ")", before, x.set(15, number));
            due("the number", big(number), number(x, 15));
            before = Long.signum(number);
        }
        due("changes()", numbers.length, x.changes());
        outOfRange("set", x, r -> x.set(r, 1));
    }

    private static void promise3() {
        Biglaws x = new Biglaws();
        for (int i = 1; i <= 199; i++) {
            due("type", i, x.type((char) (i % 95 + 32)));
        }
        due("type the tilde", 200, x.type('~'));
        refused("type a 201st", IllegalStateException.class, () -> x.type('1'));
        refused("type 31 then", IllegalArgumentException.class, () -> x.type((char) 31));
        due("erase", 200, x.erase());
        due("type a blank", 1, x.type(' '));
        for (char sign : new char[] {0, 31, 127, 128, 255, 0xFFFF}) {
            refused("type " + (int) sign, IllegalArgumentException.class, () -> x.type(sign));
        }
        due("type", 2, x.type('~'));
        due("changes()", 0, x.changes());
    }

    private static void promise4() {
        Biglaws x = new Biglaws();
        due("erase nothing", 0, x.erase());
        type(x, "12x");
        due("erase", 3, x.erase());
        due("erase again", 0, x.erase());
        due("changes()", 0, x.changes());
        type(x, "7");
        x.read(0);
        due("the text after the erased one", big(7), number(x, 0));
    }

    private static void reads(Biglaws x, String text, String want) {
        type(x, text);
        due("read " + text, text.length(), x.read(1));
        due("the number of " + text, big(want), number(x, 1));
        due("the text is away after " + text, 0, x.erase());
    }

    private static void promise5() {
        Biglaws x = new Biglaws();
        reads(x, "0", "0");
        reads(x, "-0", "0");
        reads(x, "+0012", "12");
        reads(x, "-98765432109876543210", "-98765432109876543210");
        reads(x, "-" + MOST, "-" + MOST);
        reads(x, "+" + "0".repeat(49) + MOST, MOST.toString());
        for (String text : new String[] {"", "+", "-", "+-1", "--1", "1-", " 1", "1 ", "1a", "a", "/", ":", "0x1", "1.0"}) {
            x.erase();
            type(x, text);
            refused("read '" + text + "'", NumberFormatException.class, x, () -> x.read(2));
            due("the text stays", text.length(), x.erase());
        }
        type(x, "1" + "0".repeat(150));
        refused("read 151 digits", IllegalStateException.class, x, () -> x.read(2));
        outOfRange("read of too many digits", x, r -> x.read(r));
        due("the text stays", 151, x.erase());
        outOfRange("read of nothing", x, r -> x.read(r));
        type(x, "1" + "0".repeat(198) + "-");
        refused("read no number", NumberFormatException.class, x, () -> x.read(2));
        x.erase();
        x.set(0, 3);
        type(x, "42");
        x.read(0);
        x.undo();
        due("read taken back", big(3), number(x, 0));
        due("the text is not taken back", 0, x.erase());
    }

    private static void readsBy(Biglaws x, String text, int radix) {
        type(x, text);
        due("readBy " + text, text.length(), x.readBy(1, radix));
        due("the number of " + text + " by " + radix, new BigInteger(text, radix), number(x, 1));
        due("the text is away", 0, x.erase());
    }

    private static void promise6() {
        Biglaws x = new Biglaws();
        readsBy(x, "-101", 2);
        readsBy(x, "+zZaA09", 36);
        readsBy(x, "7fFF", 16);
        readsBy(x, "1" + "0".repeat(199), 2);
        readsBy(x, "1" + "0".repeat(198) + "2", 3);
        readsBy(x, MOST.toString(36), 36);
        readsBy(x, MOST.negate().toString(7), 7);
        String[] texts = {"2", "1 ", "", "-", "g", "@", "[", "`", "{"};
        int[] radixes = {2, 10, 16, 16, 16, 36, 36, 36, 36};
        for (int i = 0; i < texts.length; i++) {
            int radix = radixes[i];
            x.erase();
            type(x, texts[i]);
            refused("readBy '" + texts[i] + "'", NumberFormatException.class, x, () -> x.readBy(2, radix));
            due("the text stays", texts[i].length(), x.erase());
        }
        type(x, "1");
        for (int radix : new int[] {1, 0, -1, 37, Integer.MIN_VALUE, Integer.MAX_VALUE}) {
            refused("readBy radix " + radix, NumberFormatException.class, x, () -> x.readBy(2, radix));
            outOfRange("readBy radix " + radix, x, r -> x.readBy(r, radix));
        }
        x.erase();
        for (BigInteger number : new BigInteger[] {MOST.add(BigInteger.ONE), MOST.negate().subtract(BigInteger.ONE)}) {
            type(x, number.toString(36));
            refused("readBy too many", IllegalStateException.class, x, () -> x.readBy(2, 36));
            due("the text stays", number.toString(36).length(), x.erase());
        }
        type(x, "z".repeat(200));
        refused("readBy 200 z", IllegalStateException.class, x, () -> x.readBy(2, 36));
        outOfRange("readBy 200 z", x, r -> x.readBy(r, 36));
    }

    private static void promise7() {
        Biglaws x = with(5, -6);
        due("copy(2, 1)", -1, x.copy(2, 1));
        due("the copy", big(-6), number(x, 2));
        x.set(1, 9);
        due("the copy stays", big(-6), number(x, 2));
        due("copy(0, 0)", 1, x.copy(0, 0));
        due("copy(0, 15)", 0, x.copy(0, 15));
        due("changes()", 6, x.changes());
        outOfRange("copy into", x, r -> x.copy(r, 0));
        outOfRange("copy from", x, r -> x.copy(0, r));
    }

    private static void promise8() {
        Biglaws x = with(9);
        for (int which : new int[] {10, 2, 1, 0}) {
            due("constant", which == 0 ? 0 : 1, x.constant(0, which));
            due("the constant", big(which), number(x, 0));
        }
        for (int which : new int[] {-1, 3, 9, 11, -10, Integer.MIN_VALUE, Integer.MAX_VALUE}) {
            refused("constant " + which, IllegalArgumentException.class, x, () -> x.constant(0, which));
            outOfRange("constant " + which, x, r -> x.constant(r, which));
        }
        outOfRange("constant", x, r -> x.constant(r, 1));
    }

    private static void promise9() {
        Biglaws x = with(MOST, BigInteger.ONE, MOST.negate(), big(-1), two(30).subtract(BigInteger.ONE));
        due("add", 1, x.add(5, 4, 1));
        due("the sum", two(30), number(x, 5));
        due("add to 0", 0, x.add(5, 0, 2));
        due("the sum", BigInteger.ZERO, number(x, 5));
        due("add", 1, x.add(5, 0, 3));
        due("the sum", MOST.subtract(BigInteger.ONE), number(x, 5));
        due("add", 1, x.add(5, 5, 1));
        due("the sum", MOST, number(x, 5));
        due("add to itself", -1, x.add(3, 3, 3));
        due("the sum", big(-2), number(x, 3));
        refused("add", IllegalStateException.class, x, () -> x.add(5, 0, 1));
        refused("add", IllegalStateException.class, x, () -> x.add(5, 2, 3));
        outOfRange("add", x, r -> x.add(r, 0, 0));
        outOfRange("add", x, r -> x.add(0, r, 1));
        outOfRange("add", x, r -> x.add(0, 1, r));
    }

    private static void promise10() {
        Biglaws x = with(MOST, BigInteger.ONE, MOST.negate(), two(60));
        due("subtract", 1, x.subtract(4, 3, 1));
        due("the difference", two(60).subtract(BigInteger.ONE), number(x, 4));
        due("subtract", -1, x.subtract(4, 1, 3));
        due("the difference", BigInteger.ONE.subtract(two(60)), number(x, 4));
        due("subtract itself", 0, x.subtract(3, 3, 3));
        due("the difference", BigInteger.ZERO, number(x, 3));
        due("subtract from 0", -1, x.subtract(3, 3, 1));
        refused("subtract", IllegalStateException.class, x, () -> x.subtract(5, 2, 1));
        refused("subtract", IllegalStateException.class, x, () -> x.subtract(5, 0, 2));
        outOfRange("subtract", x, r -> x.subtract(r, 0, 2));
        outOfRange("subtract", x, r -> x.subtract(0, r, 1));
        outOfRange("subtract", x, r -> x.subtract(0, 1, r));
    }

    private static void promise11() {
        BigInteger a = BigInteger.TEN.pow(75);
        Biglaws x = with(a, a.subtract(BigInteger.ONE), big(-3), two(30).subtract(BigInteger.ONE));
        due("multiply", 1, x.multiply(4, 0, 1));
        due("the product", a.multiply(a).subtract(a), number(x, 4));
        due("multiply", -1, x.multiply(4, 2, 0));
        due("the product", a.multiply(big(-3)), number(x, 4));
        due("multiply", 1, x.multiply(2, 2, 2));
        due("the product", big(9), number(x, 2));
        due("multiply", 1, x.multiply(3, 3, 3));
        due("the product", two(30).subtract(BigInteger.ONE).pow(2), number(x, 3));
        due("multiply by 0", 0, x.multiply(3, 3, 9));
        refused("multiply", IllegalStateException.class, x, () -> x.multiply(5, 0, 0));
        outOfRange("multiply", x, r -> x.multiply(r, 0, 0));
        outOfRange("multiply", x, r -> x.multiply(0, r, 1));
        outOfRange("multiply", x, r -> x.multiply(0, 1, r));
    }

    private static void divides(long a, long b, long quotient, long rest) {
        Biglaws x = with(a, b);
        promise = 12;
        due("divide " + a + " " + b, Long.signum(quotient), x.divide(2, 0, 1));
        due("the quotient " + a + " " + b, big(quotient), number(x, 2));
        promise = 13;
        due("remainder " + a + " " + b, Long.signum(rest), x.remainder(2, 0, 1));
        due("the remainder " + a + " " + b, big(rest), number(x, 2));
        promise = 14;
        due("divideBoth", 3 * Long.signum(quotient) + Long.signum(rest), x.divideBoth(1, 0, 0, 1));
        due("the quotient", big(quotient), number(x, 1));
        due("the remainder", big(rest), number(x, 0));
        due("changes()", 5, x.changes());
    }

    private static void promise12() {
        divides(17, 5, 3, 2);
        divides(-17, 5, -3, -2);
        divides(17, -5, -3, 2);
        divides(-17, -5, 3, -2);
        divides(4, 5, 0, 4);
        divides(-4, 5, 0, -4);
        divides(0, 5, 0, 0);
        divides(10, 5, 2, 0);
        divides(1L << 60, 1L << 30, 1L << 30, 0);
        divides((1L << 60) - 1, (1L << 30) - 1, (1L << 30) + 1, 0);
        divides(Long.MAX_VALUE, 1L << 61, 3, (1L << 61) - 1);
        promise = 12;
        Biglaws y = with(Long.MIN_VALUE, -1);
        due("divide", 1, y.divide(0, 0, 1));
        due("the quotient", two(63), number(y, 0));
        Biglaws x = with(MOST, two(200), big(5));
        x.divide(3, 0, 1);
        due("the quotient", MOST.divide(two(200)), number(x, 3));
        x.divide(2, 2, 2);
        due("the quotient by itself", BigInteger.ONE, number(x, 2));
        refused("divide by 0", ArithmeticException.class, x, () -> x.divide(3, 0, 9));
        outOfRange("divide", x, r -> x.divide(r, 0, 9));
        outOfRange("divide", x, r -> x.divide(0, r, 9));
        outOfRange("divide", x, r -> x.divide(0, 1, r));
    }

    /** The third limb's guess and the step back after a guess that is 1 too great. */
    private static void hardDivisions() {
        int[] edges = {0, 1, (1 << 29) - 1, 1 << 29, (1 << 30) - 2, (1 << 30) - 1};
        for (int i = 0; i < 6 * 6 * 6 * 6 * 6 * 6; i += 7) {
            BigInteger[] parts = new BigInteger[6];
            int rest = i;
            for (int k = 0; k < 6; k++) {
                parts[k] = big(edges[rest % 6]);
                rest /= 6;
            }
            BigInteger a = parts[0].shiftLeft(90).add(parts[1].shiftLeft(60)).add(parts[2].shiftLeft(30)).add(parts[3]);
            BigInteger b = parts[4].shiftLeft(60).add(parts[5].shiftLeft(30)).add(parts[0]);
            if (b.signum() != 0) {
                Biglaws x = with(a, b);
                x.divideBoth(2, 3, 0, 1);
                due("the quotient of " + a + " and " + b, a.divide(b), number(x, 2));
                due("the remainder of " + a + " and " + b, a.remainder(b), number(x, 3));
            }
        }
    }

    private static void promise13() {
        Biglaws x = with(MOST.negate(), two(200), big(5));
        x.remainder(3, 0, 1);
        due("the remainder", MOST.negate().remainder(two(200)), number(x, 3));
        due("remainder", 0, x.remainder(2, 2, 2));
        due("the remainder by itself", BigInteger.ZERO, number(x, 2));
        refused("remainder by 0", ArithmeticException.class, x, () -> x.remainder(3, 0, 9));
        outOfRange("remainder", x, r -> x.remainder(r, 0, 9));
        outOfRange("remainder", x, r -> x.remainder(0, r, 9));
        outOfRange("remainder", x, r -> x.remainder(0, 1, r));
    }

    private static void promise14() {
        hardDivisions();
        Biglaws x = with(17, 5);
        due("divideBoth", 4, x.divideBoth(0, 1, 0, 1));
        due("the quotient", big(3), number(x, 0));
        due("the remainder", big(2), number(x, 1));
        due("undo", 2, x.undo());
        due("both taken back", big(17), number(x, 0));
        due("both taken back", big(5), number(x, 1));
        refused("into one", IllegalArgumentException.class, x, () -> x.divideBoth(3, 3, 0, 1));
        refused("into one by 0", IllegalArgumentException.class, x, () -> x.divideBoth(3, 3, 0, 9));
        refused("by 0", ArithmeticException.class, x, () -> x.divideBoth(3, 4, 0, 9));
        outOfRange("divideBoth", x, r -> x.divideBoth(r, r, 0, 9));
        outOfRange("divideBoth", x, r -> x.divideBoth(3, r, 0, 9));
        outOfRange("divideBoth", x, r -> x.divideBoth(r, 3, 0, 9));
        outOfRange("divideBoth", x, r -> x.divideBoth(3, 3, r, 9));
        outOfRange("divideBoth", x, r -> x.divideBoth(3, 3, 0, r));
    }

    private static void promise15() {
        Biglaws x = with(-17, 5, 17, 1, -5);
        due("mod", 1, x.mod(6, 0, 1));
        due("the residue", big(3), number(x, 6));
        due("mod", 1, x.mod(6, 2, 1));
        due("the residue", big(2), number(x, 6));
        due("mod 1", 0, x.mod(6, 2, 3));
        due("mod itself", 0, x.mod(6, 2, 2));
        due("mod of -m", 0, x.mod(6, 4, 1));
        due("mod in place", 1, x.mod(1, 0, 1));
        due("the residue", big(3), number(x, 1));
        refused("mod 0", ArithmeticException.class, x, () -> x.mod(6, 0, 9));
        refused("mod -5", ArithmeticException.class, x, () -> x.mod(6, 0, 4));
        outOfRange("mod", x, r -> x.mod(r, 0, 9));
        outOfRange("mod", x, r -> x.mod(0, r, 9));
        outOfRange("mod", x, r -> x.mod(0, 1, r));
    }

    private static void promise16() {
        Biglaws x = with(-17, 5, 0);
        due("negate", 1, x.negate(3, 0));
        due("the number", big(17), number(x, 3));
        due("negate", -1, x.negate(1, 1));
        due("the number", big(-5), number(x, 1));
        due("negate 0", 0, x.negate(1, 2));
        due("the number", BigInteger.ZERO, number(x, 1));
        due("what was negated stays", big(-17), number(x, 0));
        outOfRange("negate", x, r -> x.negate(r, 0));
        outOfRange("negate", x, r -> x.negate(0, r));
    }

    private static void promise17() {
        Biglaws x = with(-17, 5, 0, Long.MIN_VALUE);
        due("abs", 1, x.abs(4, 0));
        due("the number", big(17), number(x, 4));
        due("abs", 1, x.abs(4, 1));
        due("the number", big(5), number(x, 4));
        due("abs of 0", 0, x.abs(4, 2));
        x.abs(3, 3);
        due("the number", two(63), number(x, 3));
        due("what was looked at stays", big(-17), number(x, 0));
        outOfRange("abs", x, r -> x.abs(r, 0));
        outOfRange("abs", x, r -> x.abs(0, r));
    }

    private static void promise18() {
        Biglaws x = with(0, 1, -1, 2, -3, 10, -10, -2);
        due("0 by 0", 1, x.pow(8, 0, 0));
        due("the power", BigInteger.ONE, number(x, 8));
        due("0 by 1", 0, x.pow(8, 0, 1));
        due("0 by most", 0, x.pow(8, 0, Integer.MAX_VALUE));
        due("1 by most", 1, x.pow(8, 1, Integer.MAX_VALUE));
        due("-1 by most", -1, x.pow(8, 2, Integer.MAX_VALUE));
        due("-1 by an even one", 1, x.pow(8, 2, Integer.MAX_VALUE - 1));
        due("-1 by 2", 1, x.pow(8, 2, 2));
        due("-3 by 5", -1, x.pow(8, 4, 5));
        due("the power", big(-243), number(x, 8));
        due("2 by 498", 1, x.pow(8, 3, 498));
        due("the power", two(498), number(x, 8));
        due("-10 by 149", -1, x.pow(8, 6, 149));
        due("the power", BigInteger.TEN.pow(149).negate(), number(x, 8));
        due("by 0", 1, x.pow(8, 8, 0));
        refused("10 by 150", IllegalStateException.class, x, () -> x.pow(8, 5, 150));
        refused("2 by 499", IllegalStateException.class, x, () -> x.pow(8, 3, 499));
        refused("-2 by most", IllegalStateException.class, x, () -> x.pow(8, 7, Integer.MAX_VALUE));
        refused("by -1", ArithmeticException.class, x, () -> x.pow(8, 5, -1));
        refused("by the least", ArithmeticException.class, x, () -> x.pow(8, 1, Integer.MIN_VALUE));
        outOfRange("pow", x, r -> x.pow(r, 5, -1));
        outOfRange("pow", x, r -> x.pow(0, r, -1));
    }

    private static void promise19() {
        Biglaws x = with(3, 7, 14, 1, -2, 0);
        due("3 by 100", 1, x.modPow(6, 0, 100, 1));
        due("the residue", big(4), number(x, 6));
        x.modPow(6, 0, -2, 1);
        due("the residue", big(4), number(x, 6));
        x.modPow(6, 4, 3, 1);
        due("the residue", big(6), number(x, 6));
        due("0 by 0", 1, x.modPow(6, 5, 0, 1));
        due("by 0 with m 1", 0, x.modPow(6, 0, 0, 3));
        due("by -1 with m 1", 0, x.modPow(6, 0, -1, 3));
        due("0 by -1 with m 1", 0, x.modPow(6, 5, -1, 3));
        due("7 by 2 with 14", 1, x.modPow(6, 1, 2, 2));
        due("the residue", big(7), number(x, 6));
        for (int n : new int[] {Integer.MAX_VALUE, Integer.MIN_VALUE, Integer.MIN_VALUE + 1, 0, 1, -1}) {
            Biglaws y = with(MOST.shiftRight(1), MOST);
            y.modPow(0, 0, n, 1);
            due("by " + n, MOST.shiftRight(1).modPow(big(n), MOST), number(y, 0));
        }
        refused("no inverse", ArithmeticException.class, x, () -> x.modPow(6, 1, -1, 2));
        refused("m 0", ArithmeticException.class, x, () -> x.modPow(6, 1, 1, 5));
        refused("m -2", ArithmeticException.class, x, () -> x.modPow(6, 1, 1, 4));
        refused("0 has none", ArithmeticException.class, x, () -> x.modPow(6, 5, -1, 1));
        outOfRange("modPow", x, r -> x.modPow(r, 1, -1, 2));
        outOfRange("modPow", x, r -> x.modPow(0, r, -1, 5));
        outOfRange("modPow", x, r -> x.modPow(0, 1, -1, r));
    }

    private static void promise20() {
        Biglaws x = with(3, 7, 14, 1, -4, 0);
        due("inverse", 1, x.inverse(6, 0, 1));
        due("the inverse", big(5), number(x, 6));
        x.inverse(6, 4, 1);
        due("the inverse", big(5), number(x, 6));
        due("inverse with m 1", 0, x.inverse(6, 0, 3));
        due("inverse of 0 with m 1", 0, x.inverse(6, 5, 3));
        Biglaws y = with(MOST.subtract(big(1)), MOST);
        y.inverse(1, 0, 1);
        due("the inverse", MOST.subtract(big(1)).modInverse(MOST), number(y, 1));
        refused("none", ArithmeticException.class, x, () -> x.inverse(6, 1, 2));
        refused("of 0", ArithmeticException.class, x, () -> x.inverse(6, 5, 1));
        refused("m 0", ArithmeticException.class, x, () -> x.inverse(6, 0, 5));
        refused("m -4", ArithmeticException.class, x, () -> x.inverse(6, 0, 4));
        outOfRange("inverse", x, r -> x.inverse(r, 1, 2));
        outOfRange("inverse", x, r -> x.inverse(0, r, 5));
        outOfRange("inverse", x, r -> x.inverse(0, 1, r));
    }

    private static void promise21() {
        Biglaws x = with(-12, 18, 0, Long.MIN_VALUE);
        due("gcd", 1, x.gcd(4, 0, 1));
        due("the divisor", big(6), number(x, 4));
        due("gcd of 0 and 0", 0, x.gcd(4, 2, 2));
        due("gcd with 0", 1, x.gcd(4, 0, 2));
        due("the divisor", big(12), number(x, 4));
        x.gcd(4, 2, 0);
        due("the divisor", big(12), number(x, 4));
        x.gcd(3, 3, 3);
        due("the divisor", two(63), number(x, 3));
        outOfRange("gcd", x, r -> x.gcd(r, 0, 0));
        outOfRange("gcd", x, r -> x.gcd(0, r, 0));
        outOfRange("gcd", x, r -> x.gcd(0, 0, r));
    }

    private static void promise22() {
        BigInteger[] numbers = {MOST.negate(), big(-18), big(-12), big(0), big(5), two(30), MOST};
        Biglaws x = with(numbers);
        for (int i = 0; i < 7; i++) {
            for (int k = 0; k < 7; k++) {
                BigInteger less = numbers[Math.min(i, k)];
                due("min", less.signum(), x.min(8, i, k));
                due("the less one", less, number(x, 8));
            }
        }
        outOfRange("min", x, r -> x.min(r, 0, 0));
        outOfRange("min", x, r -> x.min(0, r, 0));
        outOfRange("min", x, r -> x.min(0, 0, r));
    }

    private static void promise23() {
        BigInteger[] numbers = {MOST.negate(), big(-18), big(-12), big(0), big(5), two(30), MOST};
        Biglaws x = with(numbers);
        for (int i = 0; i < 7; i++) {
            for (int k = 0; k < 7; k++) {
                BigInteger greater = numbers[Math.max(i, k)];
                due("max", greater.signum(), x.max(8, i, k));
                due("the greater one", greater, number(x, 8));
            }
        }
        outOfRange("max", x, r -> x.max(r, 0, 0));
        outOfRange("max", x, r -> x.max(0, r, 0));
        outOfRange("max", x, r -> x.max(0, 0, r));
    }

    private static void promise24() {
        Biglaws x = new Biglaws();
        for (int i = 0; i < 200; i++) {
            Biglaws y = with(i);
            due("root of " + i, i == 0 ? 0 : 1, y.root(0, 0));
            due("the root of " + i, big(i).sqrt(), number(y, 0));
        }
        BigInteger[] numbers = {MOST, MOST.sqrt().pow(2), MOST.sqrt().pow(2).subtract(big(1)), two(30), two(60), two(61)};
        for (BigInteger number : numbers) {
            load(x, 0, number);
            x.root(1, 0);
            due("the root of " + number, number.sqrt(), number(x, 1));
        }
        x.set(0, -1);
        refused("root of -1", ArithmeticException.class, x, () -> x.root(1, 0));
        outOfRange("root", x, r -> x.root(r, 0));
        outOfRange("root", x, r -> x.root(0, r));
    }

    private static void promise25() {
        Biglaws x = with(MOST, BigInteger.ONE, MOST.negate(), big(-7));
        due("sum of all but one", -1, x.sum(8, 0, 3));
        due("the sum", big(-6), number(x, 8));
        due("sum of one", 1, x.sum(8, 0, 0));
        due("the sum", MOST, number(x, 8));
        due("sum of none", 0, x.sum(8, 1, 0));
        due("the sum", BigInteger.ZERO, number(x, 8));
        due("sum of none", 0, x.sum(8, 15, 0));
        due("sum in place", -1, x.sum(2, 0, 3));
        due("the sum", big(-6), number(x, 2));
    }

    private static void promise25Refused() {
        Biglaws x = with(MOST, BigInteger.ONE, MOST, MOST.negate());
        refused("sum", IllegalStateException.class, x, () -> x.sum(8, 0, 1));
        refused("sum", IllegalStateException.class, x, () -> x.sum(8, 0, 3));
        outOfRange("sum", x, r -> x.sum(r, 0, 1));
        outOfRange("sum", x, r -> x.sum(8, r, 1));
        outOfRange("sum", x, r -> x.sum(8, 0, r));
        Biglaws y = new Biglaws();
        for (int i = 0; i < 8; i++) {
            load(y, i, MOST);
            load(y, i + 8, MOST.negate());
        }
        due("sum of all", 0, y.sum(0, 0, 15));
    }

    private static void promise26() {
        Biglaws x = with(MOST, MOST, BigInteger.ZERO, big(-7), big(3), big(-2));
        due("product with 0", 0, x.product(8, 0, 5));
        due("the product", BigInteger.ZERO, number(x, 8));
        due("product", 1, x.product(8, 3, 5));
        due("the product", big(42), number(x, 8));
        due("product of one", -1, x.product(8, 3, 3));
        due("the product", big(-7), number(x, 8));
        due("product of none", 1, x.product(8, 3, 2));
        due("the product", BigInteger.ONE, number(x, 8));
        due("product of none", 1, x.product(8, 15, 0));
        due("product in place", -1, x.product(4, 3, 4));
        due("the product", big(-21), number(x, 4));
        refused("product", IllegalStateException.class, x, () -> x.product(8, 0, 1));
        outOfRange("product", x, r -> x.product(r, 0, 1));
        outOfRange("product", x, r -> x.product(8, r, 1));
        outOfRange("product", x, r -> x.product(8, 0, r));
        Biglaws y = new Biglaws();
        for (int i = 0; i < 15; i++) {
            load(y, i, MOST);
        }
        due("product of all", 0, y.product(0, 0, 15));
        load(y, 0, MOST);
        y.set(15, -1);
        refused("product of all", IllegalStateException.class, y, () -> y.product(0, 0, 15));
    }

    private static void promise27() {
        Biglaws x = with(1, -3, 0);
        due("doubled", 1, x.doubled(0, 0));
        due("the number", BigInteger.ONE, number(x, 0));
        due("changes()", 4, x.changes());
        due("doubled", -1, x.doubled(1, 31));
        due("the number", two(31).multiply(big(-3)), number(x, 1));
        due("doubled", 1, x.doubled(0, 498));
        due("the number", two(498), number(x, 0));
        due("0 doubled", 0, x.doubled(2, 600));
        refused("doubled", IllegalStateException.class, x, () -> x.doubled(0, 1));
        refused("doubled", IllegalStateException.class, x, () -> x.doubled(0, 600));
        for (int n : new int[] {-1, 601, Integer.MIN_VALUE, Integer.MAX_VALUE}) {
            refused("doubled " + n, IllegalArgumentException.class, x, () -> x.doubled(0, n));
            outOfRange("doubled " + n, x, r -> x.doubled(r, n));
        }
        outOfRange("doubled", x, r -> x.doubled(r, 1));
    }

    private static void promise28() {
        for (long number : new long[] {0, 1, -1, -2, 5, -5, 1L << 30, -(1L << 30), -(1L << 60) - 1, Long.MIN_VALUE}) {
            for (int n : new int[] {0, 1, 2, 29, 30, 31, 60, 61, 63, 64, 600}) {
                Biglaws x = with(number);
                BigInteger want = big(number).shiftRight(n);
                due("halved " + number + " " + n, want.signum(), x.halved(0, n));
                due("the number " + number + " " + n, want, number(x, 0));
                due("changes()", 2, x.changes());
            }
        }
        Biglaws x = with(MOST.negate());
        x.halved(0, 497);
        due("the number", MOST.negate().shiftRight(497), number(x, 0));
        for (int n : new int[] {-1, 601, Integer.MIN_VALUE, Integer.MAX_VALUE}) {
            refused("halved " + n, IllegalArgumentException.class, x, () -> x.halved(0, n));
            outOfRange("halved " + n, x, r -> x.halved(r, n));
        }
    }

    private static void promise29() {
        Biglaws x = new Biglaws();
        refused("undo", NoSuchElementException.class, x, () -> x.undo());
        for (int i = 1; i <= 25; i++) {
            x.set(i % 16, i);
        }
        for (int left = 19; left >= 0; left--) {
            due("undo", left, x.undo());
            int change = left + 6;
            due("the number", big(change > 16 ? change - 16 : 0), number(x, change % 16));
        }
        refused("undo", NoSuchElementException.class, x, () -> x.undo());
        due("what is not taken back", big(5), number(x, 5));
        x.set(5, 1);
        x.set(5, 2);
        x.undo();
        x.set(5, 3);
        due("undo", 1, x.undo());
        due("the number", big(1), number(x, 5));
        due("undo", 0, x.undo());
        due("the number", big(5), number(x, 5));
        refused("undo", NoSuchElementException.class, x, () -> x.undo());
        x.divideBoth(4, 5, 5, 4);
        x.set(5, 8);
        due("undo", 1, x.undo());
        due("the number", big(1), number(x, 5));
        due("undo", 0, x.undo());
        due("the number", big(5), number(x, 5));
        due("the number", big(4), number(x, 4));
        type(x, "77");
        x.set(0, 1);
        x.undo();
        due("what is typed stays", 2, x.erase());
    }

    private static void promise30() {
        Biglaws x = new Biglaws();
        for (int i = 1; i <= 30; i++) {
            x.set(0, 0);
            due("changes()", Math.min(i, 20), x.changes());
        }
        x.undo();
        due("changes()", 19, x.changes());
        x.undo();
        x.set(3, 1);
        x.divideBoth(1, 2, 0, 3);
        due("changes() after a change of two registers", 20, x.changes());
        x.type('1');
        x.erase();
        x.signum(0);
        due("changes() after what is no change", 20, x.changes());
    }

    private static void promise31() {
        Biglaws x = with(MOST, MOST.negate(), big(0), big(1), big(-1));
        int[] wants = {1, -1, 0, 1, -1};
        for (int i = 0; i < wants.length; i++) {
            due("signum", wants[i], x.signum(i));
        }
        outOfRange("signum", x, r -> x.signum(r));
    }

    private static void promise32And33() {
        BigInteger[] numbers = {MOST.negate(), big(-18), big(-12), big(0), big(5), two(30), two(30).add(big(1)), MOST};
        Biglaws x = with(numbers);
        Biglaws y = with(numbers);
        for (int i = 0; i < 8; i++) {
            y.copy(i, i);
            for (int k = 0; k < 8; k++) {
                promise = 32;
                due("compare", Integer.compare(i, k), x.compare(i, k));
                promise = 33;
                due("areEqual", i == k, x.areEqual(i, k));
            }
        }
        x.subtract(9, 7, 7);
        due("areEqual of 0 and 0", true, x.areEqual(9, 3));
        promise = 32;
        due("compare 0 and 0", 0, x.compare(9, 3));
        outOfRange("compare", x, r -> x.compare(r, 0));
        outOfRange("compare", x, r -> x.compare(0, r));
        promise = 33;
        outOfRange("areEqual", x, r -> x.areEqual(r, 0));
        outOfRange("areEqual", x, r -> x.areEqual(0, r));
    }

    private static void promise34() {
        Biglaws x = with(MOST, MOST.negate(), big(0), big(10), big(-9));
        int[] wants = {150, 151, 1, 2, 2};
        for (int i = 0; i < wants.length; i++) {
            due("length", wants[i], x.length(i));
        }
        outOfRange("length", x, r -> x.length(r));
    }

    private static void promise35() {
        BigInteger[] numbers = {MOST.negate(), big(0), big("1234567890"), big("-1000000000000000000000")};
        Biglaws x = with(numbers);
        for (int i = 0; i < numbers.length; i++) {
            int register = i;
            String want = numbers[i].toString();
            for (int k = 0; k < want.length(); k++) {
                due("signAt", want.charAt(k), x.signAt(i, k));
            }
            for (int place : new int[] {-1, want.length(), Integer.MIN_VALUE, Integer.MAX_VALUE}) {
                refused("signAt " + place, IndexOutOfBoundsException.class, x, () -> x.signAt(register, place));
            }
        }
        outOfRange("signAt", x, r -> x.signAt(r, 0));
    }

    private static void promise36And37() {
        BigInteger[] numbers = {MOST.negate(), MOST, big(0), big(-35), two(490)};
        Biglaws x = with(numbers);
        int[] wrongRadixes = {1, 0, -1, -10, 37, Integer.MIN_VALUE, Integer.MAX_VALUE};
        for (int i = 0; i < numbers.length; i++) {
            int register = i;
            for (int radix = 2; radix <= 36; radix++) {
                String want = numbers[i].toString(radix);
                promise = 36;
                due("lengthBy " + radix, want.length(), x.lengthBy(i, radix));
                promise = 37;
                int by = radix;
                for (int k = 0; k < want.length(); k++) {
                    due("signBy " + radix, want.charAt(k), x.signBy(i, radix, k));
                }
                refused("signBy", IndexOutOfBoundsException.class, () -> x.signBy(register, by, want.length()));
                refused("signBy", IndexOutOfBoundsException.class, () -> x.signBy(register, by, -1));
            }
            for (int radix : wrongRadixes) {
                promise = 36;
                due("lengthBy " + radix, numbers[i].toString().length(), x.lengthBy(i, radix));
                promise = 37;
                due("signBy " + radix, numbers[i].toString().charAt(0), x.signBy(i, radix, 0));
                int end = numbers[i].toString().length();
                refused("signBy", IndexOutOfBoundsException.class, () -> x.signBy(register, radix, end));
            }
        }
        promise = 36;
        outOfRange("lengthBy", x, r -> x.lengthBy(r, 2));
        promise = 37;
        outOfRange("signBy", x, r -> x.signBy(r, 2, 0));
    }

    private static final BigInteger[] ROUND_POWERS = {
        big(0), big(1), big(-1), big(5), big(-6), two(30), two(31), two(31).negate(), two(31).subtract(big(1)),
        two(31).negate().subtract(big(1)), two(32), two(60), two(63), two(63).negate(), two(63).subtract(big(1)),
        two(63).negate().subtract(big(1)), two(64), two(64).negate(), two(90), two(90).negate(), two(91).negate(),
        MOST, MOST.negate(), two(200).add(big(77)), two(300).add(two(62)).negate(), two(64).add(big(-3)).negate()};

    private static void promise38To43() {
        for (BigInteger number : ROUND_POWERS) {
            Biglaws x = with(number);
            promise = 38;
            due("longValue of " + number, number.longValue(), x.longValue(0));
            promise = 39;
            if (number.bitLength() <= 63) {
                due("longExact of " + number, number.longValue(), x.longExact(0));
            } else {
                refused("longExact of " + number, ArithmeticException.class, x, () -> x.longExact(0));
            }
            promise = 40;
            due("intValue of " + number, number.intValue(), x.intValue(0));
            promise = 41;
            if (number.bitLength() <= 31) {
                due("intExact of " + number, number.intValue(), x.intExact(0));
            } else {
                refused("intExact of " + number, ArithmeticException.class, x, () -> x.intExact(0));
            }
            promise = 42;
            due("bitLength of " + number, number.bitLength(), x.bitLength(0));
            promise = 43;
            for (int n = 0; n < 600; n++) {
                due("testBit " + n + " of " + number, number.testBit(n), x.testBit(0, n));
            }
            due("testBit far above", number.signum() < 0, x.testBit(0, Integer.MAX_VALUE));
            refused("testBit -1", ArithmeticException.class, x, () -> x.testBit(0, -1));
            refused("testBit the least", ArithmeticException.class, x, () -> x.testBit(0, Integer.MIN_VALUE));
        }
    }

    private static void promise38To43OutOfRange() {
        Biglaws x = with(MOST);
        promise = 38;
        outOfRange("longValue", x, r -> x.longValue(r));
        promise = 39;
        outOfRange("longExact", x, r -> x.longExact(r));
        promise = 40;
        outOfRange("intValue", x, r -> x.intValue(r));
        promise = 41;
        outOfRange("intExact", x, r -> x.intExact(r));
        promise = 42;
        outOfRange("bitLength", x, r -> x.bitLength(r));
        promise = 43;
        outOfRange("testBit", x, r -> x.testBit(r, -1));
    }

    private static void promise44() {
        Biglaws x = with(MOST, MOST.negate(), big(0), big(-12), two(300).subtract(big(1)));
        String before = state(x);
        for (int i = 0; i < 125; i++) {
            due("areLaws", true, x.areLaws(i % 5, i / 5 % 5, i / 25));
        }
        due("areLaws changed", before, state(x));
        outOfRange("areLaws", x, r -> x.areLaws(r, 0, 0));
        outOfRange("areLaws", x, r -> x.areLaws(0, r, 0));
        outOfRange("areLaws", x, r -> x.areLaws(0, 0, r));
    }

    private static void promise45() {
        Biglaws x = new Biglaws();
        long want = 7;
        for (int i = 0; i < 16; i++) {
            want *= 31;
        }
        due("checksum at first", want, x.checksum());
        want = 7;
        for (int i = 0; i < 16; i++) {
            load(x, i, MOST.shiftRight(i * 30).negate());
            want = 31 * want + MOST.shiftRight(i * 30).negate().longValue();
        }
        due("checksum", want, x.checksum());
        due("changes()", 16, x.changes());
    }

    private interface Tested {
        void run();
    }

    private static void run(int number, Tested tested) {
        promise = number;
        tested.run();
    }

    private static void runPuts() {
        run(1, BiglawsPromises::promise1);
        run(2, BiglawsPromises::promise2);
        run(3, BiglawsPromises::promise3);
        run(4, BiglawsPromises::promise4);
        run(5, BiglawsPromises::promise5);
        run(6, BiglawsPromises::promise6);
        run(7, BiglawsPromises::promise7);
        run(8, BiglawsPromises::promise8);
        run(9, BiglawsPromises::promise9);
        run(10, BiglawsPromises::promise10);
        run(11, BiglawsPromises::promise11);
        run(12, BiglawsPromises::promise12);
        run(13, BiglawsPromises::promise13);
        run(14, BiglawsPromises::promise14);
        run(15, BiglawsPromises::promise15);
        run(16, BiglawsPromises::promise16);
        run(17, BiglawsPromises::promise17);
        run(18, BiglawsPromises::promise18);
        run(19, BiglawsPromises::promise19);
        run(20, BiglawsPromises::promise20);
        run(21, BiglawsPromises::promise21);
        run(22, BiglawsPromises::promise22);
        run(23, BiglawsPromises::promise23);
        run(24, BiglawsPromises::promise24);
        run(25, BiglawsPromises::promise25);
        run(25, BiglawsPromises::promise25Refused);
        run(26, BiglawsPromises::promise26);
        run(27, BiglawsPromises::promise27);
        run(28, BiglawsPromises::promise28);
        run(29, BiglawsPromises::promise29);
    }

    private static void runAsks() {
        run(30, BiglawsPromises::promise30);
        run(31, BiglawsPromises::promise31);
        run(32, BiglawsPromises::promise32And33);
        run(34, BiglawsPromises::promise34);
        run(35, BiglawsPromises::promise35);
        run(36, BiglawsPromises::promise36And37);
        run(38, BiglawsPromises::promise38To43);
        run(38, BiglawsPromises::promise38To43OutOfRange);
        run(44, BiglawsPromises::promise44);
        run(45, BiglawsPromises::promise45);
    }

    public static void main(String[] args) {
        runPuts();
        runAsks();
        System.out.println(wrong == 0 ? "all promises hold" : wrong + " answers are not as due");
        if (wrong != 0) {
            System.exit(1);
        }
    }
}
