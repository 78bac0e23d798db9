import java.math.BigInteger;
import java.util.ArrayDeque;
import java.util.Arrays;
import java.util.Deque;
import java.util.NoSuchElementException;
import java.util.Random;

/** Runs of drawn calls, each answer compared with that of a model by java.math.BigInteger. */
public final class BiglawsAgainstModel {
    private static final BigInteger LIMIT = BigInteger.TEN.pow(150);
    private static final int RUNS = 6000;

    /** How many calls of one object are promised. */
    private static final int CALLS = 512;
    private static final int METHODS = 44;

    /** What the document says, by the language's own whole numbers. */
    private static final class Model {
        final BigInteger[] registers = new BigInteger[16];
        final Deque<BigInteger[]> kept = new ArrayDeque<>();
        final StringBuilder text = new StringBuilder();

        Model() {
            Arrays.fill(registers, BigInteger.ZERO);
        }

        BigInteger at(int register) {
            if (register < 0 || register > 15) {
                throw new IndexOutOfBoundsException();
            }
            return registers[register];
        }

        void keep() {
            kept.addLast(registers.clone());
            if (kept.size() > 20) {
                kept.removeFirst();
            }
        }

        long put(int register, BigInteger number) {
            at(register);
            if (number.abs().compareTo(LIMIT) >= 0) {
                throw new IllegalStateException();
            }
            keep();
            registers[register] = number;
            return number.signum();
        }

        long read(int register, int radix) {
            at(register);
            if (radix < 2 || radix > 36 || !text.toString().matches("[+-]?[0-9a-zA-Z]+")) {
                throw new NumberFormatException();
            }
            put(register, new BigInteger(text.toString(), radix));
            return erase();
        }

        long erase() {
            long had = text.length();
            text.setLength(0);
            return had;
        }

        long divideBoth(int register, int other, int a, int b) {
            at(register);
            at(other);
            BigInteger x = at(a);
            BigInteger y = at(b);
            if (register == other) {
                throw new IllegalArgumentException();
            }
            if (y.signum() == 0) {
                throw new ArithmeticException();
            }
            keep();
            registers[register] = x.divide(y);
            registers[other] = x.remainder(y);
            return 3L * registers[register].signum() + registers[other].signum();
        }

        BigInteger positive(BigInteger m) {
            if (m.signum() <= 0) {
                throw new ArithmeticException();
            }
            return m;
        }

        long pow(int register, int a, int n) {
            at(register);
            BigInteger x = at(a);
            if (n < 0) {
                throw new ArithmeticException();
            }
            boolean repeats = x.abs().compareTo(BigInteger.ONE) <= 0;
            if (!repeats && n > 600) {
                throw new IllegalStateException();
            }
            return put(register, x.pow(repeats && n > 1 ? 2 - n % 2 : n));
        }

        long modPow(int register, int a, int n, int m) {
            at(register);
            BigInteger x = at(a);
            return put(register, x.modPow(BigInteger.valueOf(n), positive(at(m))));
        }

        long fold(int register, int first, int last, boolean isSum) {
            at(register);
            at(first);
            at(last);
            BigInteger total = isSum ? BigInteger.ZERO : BigInteger.ONE;
            for (int i = first; i <= last; i++) {
                total = isSum ? total.add(registers[i]) : total.multiply(registers[i]);
            }
            return put(register, total);
        }

        void times(int n) {
            if (n < 0 || n > 600) {
                throw new IllegalArgumentException();
            }
        }

        char sign(int register, int radix, int place) {
            String all = at(register).toString(radix < 2 || radix > 36 ? 10 : radix);
            if (place < 0 || place >= all.length()) {
                throw new IndexOutOfBoundsException();
            }
            return all.charAt(place);
        }

        long undo() {
            if (kept.isEmpty()) {
                throw new NoSuchElementException();
            }
            BigInteger[] before = kept.removeLast();
            System.arraycopy(before, 0, registers, 0, 16);
            return kept.size();
        }

        long checksum() {
            long total = 7;
            for (BigInteger number : registers) {
                total = 31 * total + number.longValue();
            }
            return total;
        }

        /** One call: the method by its number, p to s its arguments as they come. */
        long call(int method, int p, int q, int r, int s, long number, char sign) {
            switch (method) {
                case 0: { long before = at(p).signum(); put(p, BigInteger.valueOf(number)); return before; }
                case 1:
                    if (sign < 32 || sign > 126) { throw new IllegalArgumentException(); }
                    if (text.length() >= 200) { throw new IllegalStateException(); }
                    return text.append(sign).length();
                case 2: return erase();
                case 3: return read(p, 10);
                case 4: return read(p, q);
                case 5: at(p); return put(p, at(q));
                case 6:
                    at(p);
                    if (q != 0 && q != 1 && q != 2 && q != 10) { throw new IllegalArgumentException(); }
                    return put(p, BigInteger.valueOf(q));
                case 7: at(p); return put(p, at(q).add(at(r)));
                case 8: at(p); return put(p, at(q).subtract(at(r)));
                case 9: at(p); return put(p, at(q).multiply(at(r)));
                case 10: at(p); return put(p, at(q).divide(at(r)));
                case 11: at(p); return put(p, at(q).remainder(at(r)));
                case 12: return divideBoth(p, q, r, s);
                case 13: at(p); return put(p, at(q).mod(positive(at(r))));
                case 14: at(p); return put(p, at(q).negate());
                case 15: at(p); return put(p, at(q).abs());
                case 16: return pow(p, q, r);
                case 17: return modPow(p, q, r, s);
                case 18: at(p); return put(p, at(q).modInverse(positive(at(r))));
                case 19: at(p); return put(p, at(q).gcd(at(r)));
                case 20: at(p); return put(p, at(q).min(at(r)));
                case 21: at(p); return put(p, at(q).max(at(r)));
                case 22: at(p); return put(p, at(q).sqrt());
                case 23: return fold(p, q, r, true);
                case 24: return fold(p, q, r, false);
                case 25: { BigInteger x = at(p); times(q); return put(p, x.shiftLeft(q)); }
                case 26: { BigInteger x = at(p); times(q); return put(p, x.shiftRight(q)); }
                case 27: return undo();
                case 28: return kept.size();
                case 29: return at(p).signum();
                case 30: { BigInteger x = at(p); return x.compareTo(at(q)); }
                case 31: { BigInteger x = at(p); return x.equals(at(q)) ? 1 : 0; }
                case 32: return at(p).toString().length();
                case 33: return sign(p, 10, q);
                case 34: return at(p).toString(q < 2 || q > 36 ? 10 : q).length();
                case 35: return sign(p, q, r);
                case 36: return at(p).longValue();
                case 37: return at(p).longValueExact();
                case 38: return at(p).intValue();
                case 39: return at(p).intValueExact();
                case 40: return at(p).bitLength();
                case 41: return at(p).testBit(q) ? 1 : 0;
                case 42: at(p); at(q); at(r); return 1;
                default: return checksum();
            }
        }
    }

    private static long call(Biglaws x, int method, int p, int q, int r, int s, long number, char sign) {
        switch (method) {
            case 0: return x.set(p, number);
            case 1: return x.type(sign);
            case 2: return x.erase();
            case 3: return x.read(p);
            case 4: return x.readBy(p, q);
            case 5: return x.copy(p, q);
            case 6: return x.constant(p, q);
            case 7: return x.add(p, q, r);
            case 8: return x.subtract(p, q, r);
            case 9: return x.multiply(p, q, r);
            case 10: return x.divide(p, q, r);
            case 11: return x.remainder(p, q, r);
            case 12: return x.divideBoth(p, q, r, s);
            case 13: return x.mod(p, q, r);
            case 14: return x.negate(p, q);
            case 15: return x.abs(p, q);
            case 16: return x.pow(p, q, r);
            case 17: return x.modPow(p, q, r, s);
            case 18: return x.inverse(p, q, r);
            case 19: return x.gcd(p, q, r);
            case 20: return x.min(p, q, r);
            case 21: return x.max(p, q, r);
            case 22: return x.root(p, q);
            case 23: return x.sum(p, q, r);
            case 24: return x.product(p, q, r);
            case 25: return x.doubled(p, q);
            case 26: return x.halved(p, q);
            case 27: return x.undo();
            case 28: return x.changes();
            case 29: return x.signum(p);
            case 30: return x.compare(p, q);
            case 31: return x.areEqual(p, q) ? 1 : 0;
            case 32: return x.length(p);
            case 33: return x.signAt(p, q);
            case 34: return x.lengthBy(p, q);
            case 35: return x.signBy(p, q, r);
            case 36: return x.longValue(p);
            case 37: return x.longExact(p);
            case 38: return x.intValue(p);
            case 39: return x.intExact(p);
            case 40: return x.bitLength(p);
            case 41: return x.testBit(p, q) ? 1 : 0;
            case 42: return x.areLaws(p, q, r) ? 1 : 0;
            default: return x.checksum();
        }
    }

    private interface Answer {
        long get();
    }

    /** The answer as a text, or the exception's own class: a class below the documented one counts as wrong. */
    private static String told(Answer answer) {
        try {
            return Long.toString(answer.get());
        } catch (RuntimeException e) {
            boolean byMachine = e.getMessage() != null && e.getMessage().startsWith("/ by zero");
            return e.getClass().getName() + (byMachine ? " of the machine" : "");
        }
    }

    private static String toldByModel(Answer answer) {
        try {
            return Long.toString(answer.get());
        } catch (RuntimeException e) {
            return e.getClass().getName();
        }
    }

    private final Random random;
    private int wrong;
    private int used;
    private final int[] answered = new int[METHODS];
    private final int[] refused = new int[METHODS];

    private BiglawsAgainstModel(long seed) {
        random = new Random(seed);
    }

    private int register(int spread) {
        return random.nextInt(60) == 0 ? random.nextInt(5) * 16 - 33 : random.nextInt(spread);
    }

    private int small() {
        switch (random.nextInt(8)) {
            case 0: return random.nextInt();
            case 1: return random.nextInt(700) - 20;
            case 2: return random.nextInt(512);
            case 3: return random.nextBoolean() ? Integer.MIN_VALUE : Integer.MAX_VALUE;
            case 4: return new int[] {-1, 0, 1, 2, 10, 36, 37, 600, 601, 499, 498}[random.nextInt(11)];
            default: return random.nextInt(42) - 2;
        }
    }

    private long number() {
        switch (random.nextInt(5)) {
            case 0: return random.nextLong();
            case 1: return random.nextInt(5) - 2;
            case 2: return (1L << random.nextInt(64)) + random.nextInt(3) - 1;
            case 3: return -(1L << random.nextInt(64)) + random.nextInt(3) - 1;
            default: return random.nextInt(200) - 100;
        }
    }

    /** A number whose groups of 30 bits are at their edges often: that is where a division errs. */
    private BigInteger edgy() {
        int groups = random.nextInt(18);
        BigInteger all = BigInteger.ZERO;
        int[] edges = {0, 0, 1, 2, (1 << 29) - 1, 1 << 29, (1 << 29) + 1, (1 << 30) - 2, (1 << 30) - 1};
        for (int i = 0; i < groups; i++) {
            int edge = random.nextInt(edges.length + 1);
            int part = edge < edges.length ? edges[edge] : random.nextInt(1 << 30);
            all = all.shiftLeft(30).add(BigInteger.valueOf(part));
        }
        if (random.nextInt(4) == 0) {
            all = all.add(LIMIT).subtract(BigInteger.valueOf(random.nextInt(4)));
        }
        return random.nextBoolean() ? all : all.negate();
    }

    private void typeText(Biglaws x, Model model, String text) {
        for (int i = 0; i < text.length(); i++) {
            char sign = text.charAt(i);
            compare(x, model, 1, 0, 0, 0, 0, 0, sign);
        }
    }

    /** Puts a drawn number by its text, so that registers hold great ones. */
    private void load(Biglaws x, Model model, int spread) {
        int radix = 2 + random.nextInt(35);
        String text = edgy().toString(radix);
        if (text.length() > 150) {
            radix = 36;
            text = edgy().toString(radix);
        }
        compare(x, model, 2, 0, 0, 0, 0, 0, ' ');
        typeText(x, model, random.nextBoolean() ? text : text.toUpperCase());
        compare(x, model, 4, random.nextInt(spread), radix, 0, 0, 0, ' ');
    }

    private void compare(Biglaws x, Model model, int method, int p, int q, int r, int s, long number, char sign) {
        String want = toldByModel(() -> model.call(method, p, q, r, s, number, sign));
        String got = told(() -> call(x, method, p, q, r, s, number, sign));
        used++;
        if (want.startsWith("java")) {
            refused[method]++;
        } else {
            answered[method]++;
        }
        if (!want.equals(got)) {
            wrong++;
            if (wrong < 20) {
                System.out.println("method " + method + " (" + p + ", " + q + ", " + r + ", " + s + ", " + number
                        + ", " + (int) sign + ") answered " + got + ", due is " + want);
            }
        }
    }

    private char drawnSign() {
        switch (random.nextInt(12)) {
            case 0: return (char) random.nextInt(140);
            case 1: return '-';
            case 2: return '+';
            case 3: return (char) ('a' + random.nextInt(26));
            case 4: return (char) ('A' + random.nextInt(26));
            default: return (char) ('0' + random.nextInt(10));
        }
    }

    private void drawnCall(Biglaws x, Model model, int spread) {
        int method = random.nextInt(METHODS);
        boolean thirdIsRegister = method != 16 && method != 17 && method != 35;
        boolean secondIsRegister = method != 4 && method != 6 && method != 25 && method != 26
                && method != 33 && method != 34 && method != 35 && method != 41;
        int q = secondIsRegister ? register(spread) : small();
        int r = thirdIsRegister ? register(spread) : small();
        int s = register(spread);
        compare(x, model, method, register(spread), q, r, s, number(), drawnSign());
    }

    /** Reads whole registers for as long as calls are promised. */
    private void finish(Biglaws x, Model model) {
        int first = random.nextInt(16);
        for (int i = 0; i < 16; i++) {
            int register = (first + i) % 16;
            int radix = 2 + random.nextInt(35);
            String want = model.registers[register].toString(radix);
            used += want.length() + 1;
            if (used > CALLS) {
                return;
            }
            StringBuilder text = new StringBuilder();
            int signs = x.lengthBy(register, radix);
            for (int k = 0; k < want.length() && k < signs; k++) {
                text.append(x.signBy(register, radix, k));
            }
            if (signs != want.length() || !text.toString().equals(want)) {
                wrong++;
                System.out.println("register " + register + " has " + text + ", due is " + want);
            }
        }
    }

    private void run() {
        Biglaws x = new Biglaws();
        Model model = new Model();
        int spread = 1 + random.nextInt(16);
        int loading = 1 + random.nextInt(40);
        int drawn = 100 + random.nextInt(CALLS - 99);
        used = 0;
        while (used < drawn) {
            if (random.nextInt(loading) == 0 && used < CALLS - 160) {
                load(x, model, spread);
            } else {
                drawnCall(x, model, spread);
            }
        }
        finish(x, model);
    }

    public static void main(String[] args) {
        BiglawsAgainstModel test = new BiglawsAgainstModel(args.length > 0 ? Long.parseLong(args[0]) : 20261118L);
        for (int i = 0; i < RUNS; i++) {
            test.run();
        }
        for (int i = 0; i < METHODS; i++) {
            if (test.answered[i] < 100) {
                test.wrong++;
                System.out.println("method " + i + " was answered " + test.answered[i] + " times only");
            }
        }
        if (args.length > 0) {
            System.out.println(Arrays.toString(test.answered) + Arrays.toString(test.refused));
        }
        System.out.println(test.wrong == 0 ? "as the model" : test.wrong + " answers differ from the model");
        if (test.wrong != 0) {
            System.exit(1);
        }
    }
}
