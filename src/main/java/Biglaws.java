import java.util.NoSuchElementException;

/**
 * Whole numbers of at most 150 decimal digits in sixteen registers, with a text that can be typed
 * and read, and with the last twenty changes kept to be taken back.
 *
 * All rows are made by the constructor and used again: a call makes no object but its exception.
 */
public final class Biglaws {
    private static final int REGISTERS = 16;
    private static final int DIGITS = 150;
    private static final int TEXT_SIGNS = 200;
    private static final int KEPT_CHANGES = 20;
    private static final int MOST_TIMES = 600;
    private static final int DECIMAL = 10;
    private static final int LEAST_RADIX = 2;
    private static final int MOST_RADIX = 36;
    private static final char FIRST_SIGN = ' ';
    private static final char LAST_SIGN = '~';

    /** What a digit's value is told to be if the sign is no digit: too great for each radix. */
    private static final int NO_DIGIT = MOST_RADIX;

    private static final int LIMB_BITS = 30;
    private static final long BASE = 1L << LIMB_BITS;
    private static final int MASK = (1 << LIMB_BITS) - 1;

    /** The most that comes up is a product of three numbers in areLaws(), of 51 limbs. */
    private static final int LIMBS = 52;

    /** The most that is spelt is a sign - and 499 digits by the radix 2. */
    private static final int SPELT_SIGNS = 512;

    /** 2 to the power of this has 151 decimal digits, and greater numbers are too long sooner. */
    private static final int TOO_LONG_POWER = 499;

    /** Far above the steps that any division chain or approximation of such numbers takes. */
    private static final int MOST_STEPS = 100000;

    private final Whole[] registers = new Whole[REGISTERS];
    private final History history = new History();
    private final Reckoner reckoner = new Reckoner();
    private final Speller speller = new Speller();
    private final Whole result = new Whole();
    private final Whole second = new Whole();
    private final char[] text = new char[TEXT_SIGNS];
    private int typed;

    public Biglaws() {
        for (int i = 0; i < REGISTERS; i++) {
            registers[i] = new Whole();
        }
    }

    // What is put.

    public int set(int register, long number) throws IndexOutOfBoundsException {
        int before = at(register).sign;
        result.assignLong(number);
        put(register);
        return before;
    }

    public int type(char sign) throws IllegalArgumentException, IllegalStateException {
        if (sign < FIRST_SIGN || sign > LAST_SIGN) {
            throw new IllegalArgumentException("no such sign");
        }
        if (typed < 0 || typed >= text.length) {
            throw new IllegalStateException("the text is full");
        }
        text[typed] = sign;
        typed++;
        return typed;
    }

    public int erase() {
        int had = typed;
        typed = 0;
        return had;
    }

    public int read(int register) throws IndexOutOfBoundsException, NumberFormatException, IllegalStateException {
        return putText(register, DECIMAL);
    }

    public int readBy(int register, int radix)
            throws IndexOutOfBoundsException, NumberFormatException, IllegalStateException {
        return putText(register, radix);
    }

    public int copy(int register, int from) throws IndexOutOfBoundsException {
        requireRegister(register);
        result.assign(at(from));
        return put(register);
    }

    public int constant(int register, int which) throws IndexOutOfBoundsException, IllegalArgumentException {
        requireRegister(register);
        if (which != 0 && which != 1 && which != 2 && which != 10) {
            throw new IllegalArgumentException("no such constant");
        }
        result.assignLong(which);
        return put(register);
    }

    public int add(int register, int a, int b) throws IndexOutOfBoundsException, IllegalStateException {
        requireRegister(register);
        result.putSum(at(a), at(b));
        return putIfShort(register);
    }

    public int subtract(int register, int a, int b) throws IndexOutOfBoundsException, IllegalStateException {
        requireRegister(register);
        result.putDifference(at(a), at(b));
        return putIfShort(register);
    }

    public int multiply(int register, int a, int b) throws IndexOutOfBoundsException, IllegalStateException {
        requireRegister(register);
        result.putProduct(at(a), at(b));
        return putIfShort(register);
    }

    public int divide(int register, int a, int b) throws IndexOutOfBoundsException, ArithmeticException {
        requireRegister(register);
        reckoner.split(at(a), divisor(b), result, second);
        return put(register);
    }

    public int remainder(int register, int a, int b) throws IndexOutOfBoundsException, ArithmeticException {
        requireRegister(register);
        reckoner.split(at(a), divisor(b), second, result);
        return put(register);
    }

    public int divideBoth(int register, int other, int a, int b)
            throws IndexOutOfBoundsException, IllegalArgumentException, ArithmeticException {
        Whole forQuotient = at(register);
        Whole forRemainder = at(other);
        Whole dividend = at(a);
        requireRegister(b);
        if (register == other) {
            throw new IllegalArgumentException("both into the same register");
        }
        reckoner.split(dividend, divisor(b), result, second);
        history.keepBoth(register, forQuotient, other, forRemainder);
        forQuotient.assign(result);
        forRemainder.assign(second);
        return 3 * result.sign + second.sign;
    }

    public int mod(int register, int a, int m) throws IndexOutOfBoundsException, ArithmeticException {
        requireRegister(register);
        reckoner.putResidue(result, at(a), modulus(m));
        return put(register);
    }

    public int negate(int register, int a) throws IndexOutOfBoundsException {
        requireRegister(register);
        result.assign(at(a));
        result.turn();
        return put(register);
    }

    public int abs(int register, int a) throws IndexOutOfBoundsException {
        requireRegister(register);
        result.assign(at(a));
        result.dropSign();
        return put(register);
    }

    public int pow(int register, int a, int n)
            throws IndexOutOfBoundsException, ArithmeticException, IllegalStateException {
        requireRegister(register);
        Whole number = at(a);
        if (n < 0) {
            throw new ArithmeticException("the exponent is below 0");
        }
        reckoner.putPower(result, number, n);
        return putIfShort(register);
    }

    public int modPow(int register, int a, int n, int m) throws IndexOutOfBoundsException, ArithmeticException {
        requireRegister(register);
        if (!reckoner.putPowerResidue(result, at(a), n, modulus(m))) {
            throw new ArithmeticException("there is no inverse");
        }
        return put(register);
    }

    public int inverse(int register, int a, int m) throws IndexOutOfBoundsException, ArithmeticException {
        requireRegister(register);
        if (!reckoner.putInverse(result, at(a), modulus(m))) {
            throw new ArithmeticException("there is no inverse");
        }
        return put(register);
    }

    public int gcd(int register, int a, int b) throws IndexOutOfBoundsException {
        requireRegister(register);
        reckoner.putDivisor(result, at(a), at(b));
        return put(register);
    }

    public int min(int register, int a, int b) throws IndexOutOfBoundsException {
        requireRegister(register);
        Whole one = at(a);
        Whole other = at(b);
        result.assign(Whole.order(one, other) <= 0 ? one : other);
        return put(register);
    }

    public int max(int register, int a, int b) throws IndexOutOfBoundsException {
        requireRegister(register);
        Whole one = at(a);
        Whole other = at(b);
        result.assign(Whole.order(one, other) >= 0 ? one : other);
        return put(register);
    }

    public int root(int register, int a) throws IndexOutOfBoundsException, ArithmeticException {
        requireRegister(register);
        Whole number = at(a);
        if (number.sign < 0) {
            throw new ArithmeticException("the number is below 0");
        }
        reckoner.putRoot(result, number);
        return put(register);
    }

    public int sum(int register, int first, int last) throws IndexOutOfBoundsException, IllegalStateException {
        requireRegister(register);
        requireRegister(first);
        requireRegister(last);
        result.assignLong(0);
        for (int i = first; i <= last; i++) {
            result.putSum(result, at(i));
        }
        return putIfShort(register);
    }

    public int product(int register, int first, int last) throws IndexOutOfBoundsException, IllegalStateException {
        requireRegister(register);
        requireRegister(first);
        requireRegister(last);
        result.assignLong(hasZero(first, last) ? 0 : 1);
        // No factor is 0 where the product is not: what is too long once stays so.
        for (int i = first; i <= last && result.sign != 0 && !reckoner.isTooLong(result); i++) {
            second.putProduct(result, at(i));
            result.assign(second);
        }
        return putIfShort(register);
    }

    public int doubled(int register, int n)
            throws IndexOutOfBoundsException, IllegalArgumentException, IllegalStateException {
        Whole number = at(register);
        requireTimes(n);
        result.putShiftedUp(number, n);
        return putIfShort(register);
    }

    public int halved(int register, int n) throws IndexOutOfBoundsException, IllegalArgumentException {
        Whole number = at(register);
        requireTimes(n);
        result.putShiftedDown(number, n);
        if (number.sign < 0 && number.lowestBit() < n) {
            // The size was cut; a number below 0 is rounded down by a greater size.
            second.assignLong(1);
            result.putDifference(result, second);
        }
        return put(register);
    }

    public int undo() throws NoSuchElementException {
        if (history.count <= 0) {
            throw new NoSuchElementException("no change can be taken back");
        }
        history.takeBack(registers);
        return history.count;
    }

    // What is asked.

    public int changes() {
        return history.count;
    }

    public int signum(int register) throws IndexOutOfBoundsException {
        return at(register).sign;
    }

    public int compare(int a, int b) throws IndexOutOfBoundsException {
        return Whole.order(at(a), at(b));
    }

    public boolean areEqual(int a, int b) throws IndexOutOfBoundsException {
        return Whole.order(at(a), at(b)) == 0;
    }

    public int length(int register) throws IndexOutOfBoundsException {
        return speller.spell(at(register), DECIMAL);
    }

    public char signAt(int register, int place) throws IndexOutOfBoundsException {
        return speltSign(at(register), DECIMAL, place);
    }

    public int lengthBy(int register, int radix) throws IndexOutOfBoundsException {
        return speller.spell(at(register), radixOrDecimal(radix));
    }

    public char signBy(int register, int radix, int place) throws IndexOutOfBoundsException {
        return speltSign(at(register), radixOrDecimal(radix), place);
    }

    public long longValue(int register) throws IndexOutOfBoundsException {
        return at(register).lowLong();
    }

    public long longExact(int register) throws IndexOutOfBoundsException, ArithmeticException {
        Whole number = at(register);
        if (number.bits() > 63) {
            throw new ArithmeticException("there is no such long");
        }
        return number.lowLong();
    }

    public int intValue(int register) throws IndexOutOfBoundsException {
        return (int) at(register).lowLong();
    }

    public int intExact(int register) throws IndexOutOfBoundsException, ArithmeticException {
        Whole number = at(register);
        if (number.bits() > 31) {
            throw new ArithmeticException("there is no such int");
        }
        return (int) number.lowLong();
    }

    public int bitLength(int register) throws IndexOutOfBoundsException {
        return at(register).bits();
    }

    public boolean testBit(int register, int n) throws IndexOutOfBoundsException, ArithmeticException {
        Whole number = at(register);
        if (n < 0) {
            throw new ArithmeticException("the place is below 0");
        }
        return number.hasBit(n);
    }

    public boolean areLaws(int a, int b, int c) throws IndexOutOfBoundsException {
        Whole x = at(a);
        Whole y = at(b);
        Whole z = at(c);
        return reckoner.isRing(x, y, z)
                && (y.sign == 0 || reckoner.isDivision(x, y) && reckoner.isCommonDivisor(x, y, z));
    }

    public long checksum() {
        long total = 7;
        for (int i = 0; i < REGISTERS; i++) {
            total = 31 * total + at(i).lowLong();
        }
        return total;
    }

    // What the calls have in common.

    private Whole at(int register) {
        if (register < 0 || register >= registers.length) {
            throw new IndexOutOfBoundsException("no such register");
        }
        return registers[register];
    }

    private void requireRegister(int register) {
        if (register < 0 || register >= registers.length) {
            throw new IndexOutOfBoundsException("no such register");
        }
    }

    private void requireTimes(int n) {
        if (n < 0 || n > MOST_TIMES) {
            throw new IllegalArgumentException("how many times is out of range");
        }
    }

    private Whole divisor(int register) {
        Whole number = at(register);
        if (number.sign == 0) {
            throw new ArithmeticException("the divisor is 0");
        }
        return number;
    }

    private Whole modulus(int register) {
        Whole number = at(register);
        if (number.sign <= 0) {
            throw new ArithmeticException("the modulus is not above 0");
        }
        return number;
    }

    private boolean hasZero(int first, int last) {
        for (int i = first; i <= last; i++) {
            if (at(i).sign == 0) {
                return true;
            }
        }
        return false;
    }

    private int putIfShort(int register) {
        if (reckoner.isTooLong(result)) {
            throw new IllegalStateException("too many digits");
        }
        return put(register);
    }

    private int put(int register) {
        Whole target = at(register);
        history.keep(register, target);
        target.assign(result);
        return target.sign;
    }

    private int putText(int register, int radix) {
        requireRegister(register);
        if (!isRadix(radix) || !isNumber(radix)) {
            throw new NumberFormatException("no number by this radix");
        }
        takeNumber(radix);
        putIfShort(register);
        return erase();
    }

    private static boolean isRadix(int radix) {
        return radix >= LEAST_RADIX && radix <= MOST_RADIX;
    }

    private static int radixOrDecimal(int radix) {
        return isRadix(radix) ? radix : DECIMAL;
    }

    private char typedSign(int place) {
        return place >= 0 && place < typed && place < text.length ? text[place] : FIRST_SIGN;
    }

    private int firstDigit() {
        char sign = typedSign(0);
        return sign == '+' || sign == '-' ? 1 : 0;
    }

    private boolean isNumber(int radix) {
        int first = firstDigit();
        for (int i = first; i < typed; i++) {
            if (digitValue(typedSign(i)) >= radix) {
                return false;
            }
        }
        return first < typed;
    }

    private void takeNumber(int radix) {
        result.assignLong(0);
        for (int i = firstDigit(); i < typed; i++) {
            result.scale(radix, digitValue(typedSign(i)));
        }
        if (typedSign(0) == '-') {
            result.turn();
        }
    }

    private static int digitValue(char sign) {
        if (sign >= '0' && sign <= '9') {
            return sign - '0';
        }
        if (sign >= 'a' && sign <= 'z') {
            return sign - 'a' + 10;
        }
        if (sign >= 'A' && sign <= 'Z') {
            return sign - 'A' + 10;
        }
        return NO_DIGIT;
    }

    private char speltSign(Whole number, int radix, int place) {
        int signs = speller.spell(number, radix);
        if (place < 0 || place >= signs) {
            throw new IndexOutOfBoundsException("no such place");
        }
        return speller.signFromFront(place);
    }

    /**
     * A number that is put again and again: its sign, and its size in limbs by the base 2 to the
     * power of 30, the lowest one first. All limbs from count on are 0, the one ahead of them is not.
     */
    private static final class Whole {
        private final int[] limbs = new int[LIMBS];
        int count;
        int sign;

        int limb(int i) {
            return i >= 0 && i < limbs.length ? limbs[i] : 0;
        }

        void putLimb(int i, int value) {
            if (i >= 0 && i < limbs.length) {
                limbs[i] = value;
            }
        }

        /** Ends the putting of limbs below n: clears those from n on, and counts. */
        void close(int n, int newSign) {
            for (int i = n; i < count; i++) {
                putLimb(i, 0);
            }
            int top = n;
            while (top > 0 && limb(top - 1) == 0) {
                top--;
            }
            count = top;
            sign = top == 0 ? 0 : newSign;
        }

        void assign(Whole other) {
            int n = other.count;
            for (int i = 0; i < n; i++) {
                putLimb(i, other.limb(i));
            }
            close(n, other.sign);
        }

        void assignLong(long number) {
            // The size of the least long is right, too, as its bits are shifted without a sign.
            long size = number < 0 ? -number : number;
            putLimb(0, (int) (size & MASK));
            putLimb(1, (int) (size >>> LIMB_BITS & MASK));
            putLimb(2, (int) (size >>> 2 * LIMB_BITS));
            close(3, number < 0 ? -1 : 1);
        }

        void turn() {
            sign = -sign;
        }

        void dropSign() {
            sign = sign < 0 ? 1 : sign;
        }

        boolean isOne() {
            return sign == 1 && count == 1 && limb(0) == 1;
        }

        /** The lowest 64 bits, those of a number below 0 as a long has them. */
        long lowLong() {
            long size = limb(0) | (long) limb(1) << LIMB_BITS | (long) limb(2) << 2 * LIMB_BITS;
            return sign < 0 ? -size : size;
        }

        static int orderOfSizes(Whole a, Whole b) {
            if (a.count != b.count) {
                return a.count < b.count ? -1 : 1;
            }
            for (int i = a.count - 1; i >= 0; i--) {
                if (a.limb(i) != b.limb(i)) {
                    return a.limb(i) < b.limb(i) ? -1 : 1;
                }
            }
            return 0;
        }

        static int order(Whole a, Whole b) {
            if (a.sign != b.sign) {
                return a.sign < b.sign ? -1 : 1;
            }
            return a.sign < 0 ? orderOfSizes(b, a) : orderOfSizes(a, b);
        }

        /** Puts a plus b; either may be this one. */
        void putSum(Whole a, Whole b) {
            putSigned(a, b, b.sign);
        }

        /** Puts a less b; either may be this one. */
        void putDifference(Whole a, Whole b) {
            putSigned(a, b, -b.sign);
        }

        private void putSigned(Whole a, Whole b, int signOfB) {
            int signOfA = a.sign;
            if (signOfA * signOfB >= 0) {
                addSizes(a, b, signOfA != 0 ? signOfA : signOfB);
            } else if (orderOfSizes(a, b) >= 0) {
                subtractSizes(a, b, signOfA);
            } else {
                subtractSizes(b, a, signOfB);
            }
        }

        private void addSizes(Whole a, Whole b, int newSign) {
            int n = Math.max(a.count, b.count) + 1;
            int carry = 0;
            for (int i = 0; i < n; i++) {
                int total = a.limb(i) + b.limb(i) + carry;
                putLimb(i, total & MASK);
                carry = total >>> LIMB_BITS;
            }
            close(n, newSign);
        }

        /** Puts the size of a less that of b, where a is not the smaller one; either may be this one. */
        void subtractSizes(Whole a, Whole b, int newSign) {
            int n = a.count;
            int carry = 0;
            for (int i = 0; i < n; i++) {
                int total = a.limb(i) - b.limb(i) + carry;
                putLimb(i, total & MASK);
                carry = total >> LIMB_BITS;
            }
            close(n, newSign);
        }

        /** Puts the product of a and b, neither of which is this one. */
        void putProduct(Whole a, Whole b) {
            int n = a.count + b.count;
            for (int i = 0; i < n; i++) {
                putLimb(i, 0);
            }
            for (int i = 0; i < a.count; i++) {
                addRow(b, a.limb(i), i);
            }
            close(n, a.sign * b.sign);
        }

        /** Adds factor times b from a limb on, and leaves the counting to the caller. */
        void addRow(Whole b, int factor, int from) {
            long carry = 0;
            for (int i = 0; i <= b.count; i++) {
                long total = limb(from + i) + (long) factor * b.limb(i) + carry;
                putLimb(from + i, (int) (total & MASK));
                carry = total >> LIMB_BITS;
            }
        }

        /** Takes factor times b away from a limb on; answers whether that was too much. */
        boolean subtractRow(Whole b, int factor, int from) {
            long carry = 0;
            for (int i = 0; i <= b.count; i++) {
                long total = limb(from + i) - (long) factor * b.limb(i) + carry;
                putLimb(from + i, (int) (total & MASK));
                carry = total >> LIMB_BITS;
            }
            return carry < 0;
        }

        /** Takes factor times this one and addend more; for a number not below 0. */
        void scale(int factor, int addend) {
            int n = count + 1;
            long carry = addend;
            for (int i = 0; i < n; i++) {
                long total = (long) factor * limb(i) + carry;
                putLimb(i, (int) (total & MASK));
                carry = total >> LIMB_BITS;
            }
            close(n, 1);
        }

        /** Divides the size by a small divisor; answers what remains of it. */
        int reduce(int divisor) {
            if (divisor <= 0) {
                return 0;
            }
            long left = 0;
            for (int i = count - 1; i >= 0; i--) {
                long total = left * BASE + limb(i);
                putLimb(i, (int) (total / divisor));
                left = total % divisor;
            }
            close(count, sign);
            return (int) left;
        }

        /** Puts a with its size doubled n times; a is not this one. */
        void putShiftedUp(Whole a, int n) {
            int limbsUp = n / LIMB_BITS;
            int up = n % LIMB_BITS;
            int top = a.count + limbsUp + 1;
            for (int i = 0; i < top; i++) {
                int high = a.limb(i - limbsUp) << up;
                int low = a.limb(i - limbsUp - 1) >> LIMB_BITS - up;
                putLimb(i, (high | low) & MASK);
            }
            close(top, a.sign);
        }

        /** Puts a with its size halved n times, cut each time; a is not this one. */
        void putShiftedDown(Whole a, int n) {
            int limbsDown = n / LIMB_BITS;
            int down = n % LIMB_BITS;
            int top = Math.max(a.count - limbsDown, 0);
            for (int i = 0; i < top; i++) {
                int low = a.limb(i + limbsDown) >> down;
                int high = a.limb(i + limbsDown + 1) << LIMB_BITS - down;
                putLimb(i, (high | low) & MASK);
            }
            close(top, a.sign);
        }

        private int sizeBits() {
            return count * LIMB_BITS - leadingZeros();
        }

        /** How many bits of the highest limb are 0 ahead of its first 1; 0 for the number 0. */
        int leadingZeros() {
            return count == 0 ? 0 : Integer.numberOfLeadingZeros(limb(count - 1)) - (32 - LIMB_BITS);
        }

        /** The place of the lowest 1 in the size; -1 for the number 0. */
        int lowestBit() {
            for (int i = 0; i < count; i++) {
                if (limb(i) != 0) {
                    return i * LIMB_BITS + Integer.numberOfTrailingZeros(limb(i));
                }
            }
            return -1;
        }

        int bits() {
            int n = sizeBits();
            // Just 0 less a power of 2 is still not below 0 less that power.
            return sign < 0 && lowestBit() == n - 1 ? n - 1 : n;
        }

        /** Whether bit n is set, those of a number below 0 as a long has them, without an end. */
        boolean hasBit(int n) {
            boolean inSize = n >= 0 && (limb(n / LIMB_BITS) >> n % LIMB_BITS & 1) == 1;
            // 0 less a size keeps the size's bits up to the lowest 1, and turns those above it.
            return sign < 0 && n > lowestBit() ? !inSize : inSize;
        }
    }

    /** What takes more than one pass over the limbs. No number that is put is one that is given. */
    private static final class Reckoner {
        private final Whole limit = new Whole();
        private final Whole upper = new Whole();
        private final Whole lower = new Whole();
        private final Whole quotient = new Whole();
        private final Whole left = new Whole();
        private final Whole x = new Whole();
        private final Whole y = new Whole();
        private final Whole z = new Whole();
        private final Whole s = new Whole();
        private final Whole t = new Whole();
        private final Whole u = new Whole();
        private final Whole factor = new Whole();
        private final Whole product = new Whole();

        Reckoner() {
            limit.assignLong(1);
            for (int i = 0; i < DIGITS; i++) {
                limit.scale(DECIMAL, 0);
            }
        }

        /** Whether a number has more decimal digits than a register takes. */
        boolean isTooLong(Whole a) {
            return Whole.orderOfSizes(a, limit) >= 0;
        }

        /** Puts the quotient of a and b, cut toward 0, and the remainder; 0 and 0 if b is 0. */
        void split(Whole a, Whole b, Whole cut, Whole rest) {
            int shift = b.leadingZeros();
            upper.putShiftedUp(a, shift);
            lower.putShiftedUp(b, shift);
            int n = lower.count;
            int places = n == 0 ? 0 : Math.max(upper.count - n + 1, 0);
            for (int i = places - 1; i >= 0; i--) {
                int digit = guess(i, n);
                if (upper.subtractRow(lower, digit, i)) {
                    upper.addRow(lower, 1, i);
                    digit--;
                }
                cut.putLimb(i, digit);
            }
            cut.close(places, a.sign * b.sign);
            upper.close(Math.min(n, upper.count), a.sign);
            rest.putShiftedDown(upper, shift);
        }

        /** The quotient's limb at i, by the highest three limbs: right, or 1 too great. */
        private int guess(int i, int n) {
            long lead = lower.limb(n - 1);
            if (lead <= 0) {
                return 0;
            }
            long top = upper.limb(i + n) * BASE + upper.limb(i + n - 1);
            long digit = top / lead;
            long over = top % lead;
            // As the highest bit of lead is set, two limbs guess at most 2 above what three tell.
            for (int k = 0; k < 2 && over < BASE; k++) {
                if (digit < BASE && digit * lower.limb(n - 2) <= over * BASE + upper.limb(i + n - 2)) {
                    break;
                }
                digit--;
                over += lead;
            }
            return (int) digit;
        }

        /** Puts that of the numbers 0 to m less 1 that differs from a by a multiple of m. */
        void putResidue(Whole out, Whole a, Whole m) {
            split(a, m, quotient, out);
            if (out.sign < 0) {
                // Not by putSum(), which would open more calls at once than LANGUAGE.md's rule 11 leaves.
                out.subtractSizes(m, out, 1);
            }
        }

        void putDivisor(Whole out, Whole a, Whole b) {
            Whole high = x;
            Whole low = y;
            Whole next = z;
            high.assign(a);
            low.assign(b);
            for (int i = 0; i < MOST_STEPS && low.sign != 0; i++) {
                split(high, low, quotient, next);
                Whole spare = high;
                high = low;
                low = next;
                next = spare;
            }
            out.assign(high);
            out.dropSign();
        }

        /** Puts the inverse of a by m, which is above 0; answers false if there is none. */
        boolean putInverse(Whole out, Whole a, Whole m) {
            Whole high = x;
            Whole low = y;
            Whole next = z;
            // In each step high differs from ofHigh times a by a multiple of m, and low does alike.
            Whole ofHigh = s;
            Whole ofLow = t;
            Whole ofNext = u;
            high.assign(m);
            putResidue(low, a, m);
            ofHigh.assignLong(0);
            ofLow.assignLong(1);
            for (int i = 0; i < MOST_STEPS && low.sign != 0; i++) {
                split(high, low, quotient, next);
                product.putProduct(quotient, ofLow);
                ofNext.putDifference(ofHigh, product);
                Whole spare = high;
                high = low;
                low = next;
                next = spare;
                spare = ofHigh;
                ofHigh = ofLow;
                ofLow = ofNext;
                ofNext = spare;
            }
            if (!high.isOne()) {
                return false;
            }
            putResidue(out, ofHigh, m);
            return true;
        }

        /** Puts a power by n, not below 0, or the first one on the way to it that is too long. */
        void putPower(Whole out, Whole a, int n) {
            boolean growing = a.count > 1 || a.limb(0) > 1;
            int times = Math.min(n, TOO_LONG_POWER);
            if (!growing && n >= 2) {
                // The powers of -1, 0 and 1 come again after two.
                times = 2 - n % 2;
            }
            out.assignLong(1);
            for (int i = 0; i < times && !isTooLong(out); i++) {
                product.putProduct(out, a);
                out.assign(product);
            }
        }

        /** Puts the power of a by n, taken by m above 0; answers false if an inverse is missing. */
        boolean putPowerResidue(Whole out, Whole a, int n, Whole m) {
            if (n >= 0) {
                putResidue(factor, a, m);
            } else if (!putInverse(factor, a, m)) {
                return false;
            }
            long times = Math.abs((long) n);
            x.assignLong(1);
            putResidue(out, x, m);
            for (int bit = 31; bit >= 0; bit--) {
                product.putProduct(out, out);
                putResidue(out, product, m);
                if ((times >> bit & 1) == 1) {
                    product.putProduct(out, factor);
                    putResidue(out, product, m);
                }
            }
            return true;
        }

        /** Puts the root of a, not below 0, by Newton's steps from above. */
        void putRoot(Whole out, Whole a) {
            Whole root = x;
            Whole next = y;
            s.assignLong(a.sign);
            root.putShiftedUp(s, (a.bits() + 1) / 2);
            for (int i = 0; i < MOST_STEPS && root.sign > 0; i++) {
                split(a, root, quotient, left);
                product.putSum(root, quotient);
                next.putShiftedDown(product, 1);
                if (Whole.order(next, root) >= 0) {
                    break;
                }
                Whole spare = root;
                root = next;
                next = spare;
            }
            out.assign(root);
        }

        /** Whether sums and products of three numbers are the same in each order and grouping. */
        boolean isRing(Whole a, Whole b, Whole c) {
            return isSumGrouped(a, b, c) && isProductGrouped(a, b, c)
                    && isOrderFree(a, b) && isSpread(a, b, c);
        }

        private boolean isSumGrouped(Whole a, Whole b, Whole c) {
            x.putSum(a, b);
            x.putSum(x, c);
            y.putSum(b, c);
            y.putSum(a, y);
            return Whole.order(x, y) == 0;
        }

        private boolean isProductGrouped(Whole a, Whole b, Whole c) {
            x.putProduct(a, b);
            y.putProduct(x, c);
            x.putProduct(b, c);
            z.putProduct(a, x);
            return Whole.order(y, z) == 0;
        }

        private boolean isOrderFree(Whole a, Whole b) {
            x.putSum(a, b);
            y.putSum(b, a);
            s.putProduct(a, b);
            t.putProduct(b, a);
            return Whole.order(x, y) == 0 && Whole.order(s, t) == 0;
        }

        private boolean isSpread(Whole a, Whole b, Whole c) {
            x.putSum(b, c);
            y.putProduct(a, x);
            s.putProduct(a, b);
            t.putProduct(a, c);
            s.putSum(s, t);
            return Whole.order(y, s) == 0;
        }

        /** Whether quotient and remainder of a and b, which is not 0, make a again. */
        boolean isDivision(Whole a, Whole b) {
            split(a, b, quotient, left);
            x.putProduct(quotient, b);
            x.putSum(x, left);
            return Whole.order(x, a) == 0 && Whole.orderOfSizes(left, b) < 0;
        }

        /** Whether the greatest common divisor of a and b divides what it has to. */
        boolean isCommonDivisor(Whole a, Whole b, Whole c) {
            putDivisor(factor, a, b);
            product.putProduct(c, a);
            product.putDifference(product, b);
            return divides(factor, a) && divides(factor, b) && divides(factor, product);
        }

        private boolean divides(Whole a, Whole b) {
            split(b, a, quotient, left);
            return a.sign != 0 && left.sign == 0;
        }
    }

    /** The text of one number at a time, its last sign first. */
    private static final class Speller {
        private final Whole left = new Whole();
        private final char[] signs = new char[SPELT_SIGNS];
        private int count;

        /** Spells a number by a radix, 2 to 36; answers how many signs that takes. */
        int spell(Whole number, int radix) {
            left.assign(number);
            count = 0;
            putSign(digitSign(left.reduce(radix)));
            for (int i = 1; i < SPELT_SIGNS && left.count > 0; i++) {
                putSign(digitSign(left.reduce(radix)));
            }
            if (number.sign < 0) {
                putSign('-');
            }
            return count;
        }

        private void putSign(char sign) {
            if (count >= 0 && count < signs.length) {
                signs[count] = sign;
                count++;
            }
        }

        private static char digitSign(int digit) {
            return (char) (digit < 10 ? '0' + digit : 'a' + digit - 10);
        }

        char signFromFront(int place) {
            int i = count - 1 - place;
            return i >= 0 && i < signs.length ? signs[i] : FIRST_SIGN;
        }
    }

    /** What was in the registers ahead of the last changes. */
    private static final class History {
        private final Change[] kept = new Change[KEPT_CHANGES];
        private int latest;
        int count;

        History() {
            for (int i = 0; i < KEPT_CHANGES; i++) {
                kept[i] = new Change();
            }
        }

        void keep(int register, Whole before) {
            Change change = nextChange();
            change.register = register;
            change.before.assign(before);
            change.isDouble = false;
        }

        void keepBoth(int register, Whole before, int other, Whole otherBefore) {
            Change change = nextChange();
            change.register = register;
            change.before.assign(before);
            change.isDouble = true;
            change.other = other;
            change.otherBefore.assign(otherBefore);
        }

        /** The place of a new change, that of the oldest one if all are taken. */
        private Change nextChange() {
            latest = Math.floorMod(latest + 1, KEPT_CHANGES);
            count = Math.min(count + 1, KEPT_CHANGES);
            return kept[latest];
        }

        void takeBack(Whole[] registers) {
            Change change = kept[Math.floorMod(latest, KEPT_CHANGES)];
            restore(registers, change.register, change.before);
            if (change.isDouble) {
                restore(registers, change.other, change.otherBefore);
            }
            latest = Math.floorMod(latest - 1, KEPT_CHANGES);
            count--;
        }

        private static void restore(Whole[] registers, int register, Whole before) {
            if (register >= 0 && register < registers.length) {
                registers[register].assign(before);
            }
        }
    }

    /** One change: a register, or two, and the numbers that were there. */
    private static final class Change {
        final Whole before = new Whole();
        final Whole otherBefore = new Whole();
        int register;
        int other;
        boolean isDouble;
    }
}
