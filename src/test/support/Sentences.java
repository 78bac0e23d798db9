import java.io.IOException;
import java.io.UncheckedIOException;
import java.math.BigInteger;
import java.nio.file.Files;
import java.nio.file.Path;
import java.util.ArrayList;
import java.util.Arrays;
import java.util.LinkedHashSet;
import java.util.List;
import java.util.Set;
import java.util.regex.Matcher;
import java.util.regex.Pattern;

/**
 * Tests of the document's sentences, one for each. A test quotes its sentence: a quotation that the document
 * doesn't have is a fault, and so is a sentence that no test quotes.
 *
 * A sentence ends with a full stop, a semicolon or the paragraph. What the document says of an argument counts
 * if it names a bound. No object is used for more than the 512 calls that are promised: where much is looked at,
 * it is looked at in several objects that are made alike.
 */
abstract class Sentences {
    static final BigInteger ONE = BigInteger.ONE;
    static final BigInteger LIMIT = BigInteger.TEN.pow(150);
    static final BigInteger MOST = LIMIT.subtract(ONE);
    static final BigInteger LEAST = MOST.negate();
    static final int MIN = Integer.MIN_VALUE;
    static final int MAX = Integer.MAX_VALUE;
    static final int REGISTERS = 16;

    /** Numbers where a sign, a group of 30, 32 or 64 bits, or the room for digits ends. */
    static final BigInteger[] EDGES = {
        big(0), big(1), big(-1), big(2), big(-3), big(10), two(29), two(30).subtract(ONE), two(30), two(30).negate(),
        two(31).negate(), two(32).subtract(ONE), two(60).subtract(ONE), two(60), two(61).negate(), big(Long.MAX_VALUE),
        big(Long.MIN_VALUE), two(63), two(64), ten(75).subtract(ONE), ten(75).negate(), two(300).subtract(ONE),
        two(498), MOST.subtract(ONE), MOST, LEAST};

    private static final Path DOCUMENT = Path.of("../shared/DOC.md");
    private static final int[] NO_REGISTERS = {-1, 16, MIN, MAX};
    private static final int[] OUTERMOST_REGISTERS = {0, 15};
    private static final Call NOTHING = x -> 0;
    private static final Call UNDO = x -> x.undo();

    private static int wrong = 0;
    private static String heading = "";
    private static String quoted = "";
    private static final Set<String> headings = new LinkedHashSet<>();
    private static final Set<String> untested = new LinkedHashSet<>();

    interface Call {
        Object on(Biglaws x);
    }

    interface CallWith {
        Object on(Biglaws x, int argument);
    }

    interface Test {
        void run();
    }

    // The document's sentences.

    static void terms() {
        open("Terms");
    }

    static void promise(int number) {
        open("Promise " + number + ":");
    }

    private static void open(String start) {
        for (String section : document().split("(?m)^## ")) {
            if (section.startsWith(start)) {
                heading = start;
                headings.add(start);
                untested.addAll(sentences(section.substring(section.indexOf('\n'))));
                return;
            }
        }
        fault("the document has no section " + start);
    }

    private static String document() {
        try {
            return Files.readString(DOCUMENT);
        } catch (IOException e) {
            throw new UncheckedIOException(e);
        }
    }

    private static List<String> sentences(String section) {
        List<String> all = new ArrayList<>();
        for (String paragraph : section.split("\\n\\s*\\n|\\n(?=- )")) {
            String text = paragraph.replaceAll("\\s+", " ").trim();
            boolean isArgument = text.startsWith("- ");
            String said = text.replaceFirst("^(- `\\w+`|`[^`]*`): ", "");
            for (String sentence : said.split("(?<=[.;]) ")) {
                boolean namesBound = Pattern.compile("\\d|\\b(none|any)\\b").matcher(sentence).find();
                if (!sentence.isEmpty() && (!isArgument || namesBound)) {
                    all.add(named(sentence.replaceAll("[.;]$", "")));
                }
            }
        }
        all.remove(named("Exceptions"));
        return all;
    }

    private static String named(String sentence) {
        return heading + " " + sentence;
    }

    /** The test of one sentence of the section that is open. */
    static void says(String sentence, Test test) {
        quoted = sentence;
        String normal = sentence.replaceAll("\\s+", " ");
        if (!untested.remove(named(normal))) {
            fault("the document doesn't say this here, or it is tested twice");
        }
        try {
            test.run();
        } catch (RuntimeException e) {
            fault("the test ended with " + e);
        }
    }

    private static void fault(String what) {
        wrong++;
        if (wrong <= 40) {
            System.out.println(heading + " '" + quoted + "': " + what);
        }
    }

    /** Tells of all faults, among them sentences without a test; sections is how many there should be. */
    static void finish(int sections) {
        quoted = "";
        for (String sentence : untested) {
            fault("no test of: " + sentence);
        }
        if (headings.size() != sections) {
            fault("tested are the sections " + headings);
        }
        System.out.println(wrong == 0 ? "all sentences hold" : wrong + " faults");
        if (wrong != 0) {
            System.exit(1);
        }
    }

    // Numbers.

    static BigInteger big(Object number) {
        return number instanceof BigInteger ? (BigInteger) number : BigInteger.valueOf(((Number) number).longValue());
    }

    static BigInteger two(int n) {
        return ONE.shiftLeft(n);
    }

    static BigInteger ten(int n) {
        return BigInteger.TEN.pow(n);
    }

    static boolean isShort(BigInteger number) {
        return number.abs().compareTo(LIMIT) < 0;
    }

    // Objects that are made ready for a call.

    /** How objects are made ready: by the same calls each time. */
    static final class Start {
        private final List<Call> steps = new ArrayList<>();
        private final List<BigInteger> loaded = new ArrayList<>();
        private Seen seen;

        Start then(Call step) {
            steps.add(step);
            return this;
        }

        Start typed(String text) {
            return then(x -> type(x, text));
        }

        private void load(BigInteger number) {
            int register = loaded.size();
            int same = loaded.indexOf(number);
            int opposite = loaded.indexOf(number.negate());
            if (number.bitLength() <= 63) {
                then(x -> x.set(register, number.longValue()));
            } else if (same >= 0) {
                then(x -> x.copy(register, same));
            } else if (opposite >= 0) {
                then(x -> x.negate(register, opposite));
            } else {
                typed(number.toString(36));
                then(x -> x.readBy(register, 36));
            }
            loaded.add(number);
        }

        Biglaws make() {
            Biglaws x = new Biglaws();
            for (Call step : steps) {
                step.on(x);
            }
            return x;
        }

        private Seen seen() {
            if (seen == null) {
                seen = new Seen(this, NOTHING);
            }
            return seen;
        }
    }

    static int type(Biglaws x, String text) {
        int signs = 0;
        for (int i = 0; i < text.length(); i++) {
            signs = x.type(text.charAt(i));
        }
        return signs;
    }

    /** An object with these numbers in its registers from 0 on, and nothing typed. */
    static Start bare(Object... numbers) {
        Start start = new Start();
        for (Object number : numbers) {
            start.load(big(number));
        }
        return start;
    }

    /** An object with these numbers in its registers from 0 on, and something typed, a number by radixes above 29. */
    static Start with(Object... numbers) {
        return bare(numbers).typed("-4t");
    }

    /** An object with as many changes as can be taken back, of numbers that are not 0 in all registers. */
    static Start full() {
        Start start = new Start();
        for (int i = 0; i < 24; i++) {
            int register = i % REGISTERS;
            long number = 1000 + i;
            start.then(x -> x.set(register, number));
        }
        return start.typed("-4t");
    }

    // What is looked at.

    static String text(Biglaws x, int register, int radix) {
        StringBuilder all = new StringBuilder();
        int signs = x.lengthBy(register, radix);
        for (int i = 0; i < signs; i++) {
            all.append(x.signBy(register, radix, i));
        }
        return all.toString();
    }

    static BigInteger number(Biglaws x, int register) {
        return new BigInteger(text(x, register, 36), 36);
    }

    /** The answer, or the name of the exception's very class. */
    static String outcome(Biglaws x, Call call) {
        try {
            return String.valueOf(call.on(x));
        } catch (RuntimeException e) {
            boolean isOfMachine = "/ by zero".equals(e.getMessage());
            return e.getClass().getName() + (isOfMachine ? " of the machine" : "");
        }
    }

    /** All that can be told after a call: the numbers, the text, and what taking back brings. */
    private static final class Seen {
        final BigInteger[] numbers = new BigInteger[REGISTERS];
        String typed;
        int changes;
        long checksum;
        List<Long> takenBack = new ArrayList<>();

        Seen(Start start, Call call) {
            for (int i = 0; i < REGISTERS; i++) {
                numbers[i] = number(after(start, call), i);
            }
            typed = typed(after(start, call));
            Biglaws x = after(start, call);
            changes = x.changes();
            checksum = x.checksum();
            while (outcome(x, UNDO).matches("\\d+")) {
                takenBack.add(x.checksum());
            }
        }

        private Seen(Seen other) {
            System.arraycopy(other.numbers, 0, numbers, 0, REGISTERS);
            typed = other.typed;
            changes = other.changes;
            checksum = other.checksum;
            takenBack.addAll(other.takenBack);
        }

        private static Biglaws after(Start start, Call call) {
            Biglaws x = start.make();
            outcome(x, call);
            return x;
        }

        /** A further sign tells how many there are, and reading tells which. */
        private static String typed(Biglaws x) {
            return outcome(x, y -> y.type('1')) + " " + outcome(x, y -> y.readBy(15, 36)) + " " + number(x, 15)
                    + " " + x.erase();
        }

        /** What is to be seen after one change more that puts a number; a text that was read is gone. */
        Seen afterChange(int register, BigInteger number) {
            Seen want = new Seen(this);
            want.numbers[register] = number;
            want.changes = Math.min(changes + 1, 20);
            want.takenBack.add(0, checksum);
            want.takenBack = want.takenBack.subList(0, want.changes);
            return want;
        }

        Seen withoutText() {
            Seen want = new Seen(this);
            want.typed = "1 1 1 0";
            return want;
        }

        String told() {
            return Arrays.toString(numbers) + ", typed " + typed + ", changes " + changes + ", taken back " + takenBack;
        }
    }

    // What is due.

    static void due(String what, Object want, Object got) {
        if (!String.valueOf(want).equals(String.valueOf(got))) {
            fault(what + ": " + got + ", due is " + want);
        }
    }

    /** The call answers so. */
    static void answers(Object want, Start start, Call call) {
        due("the answer", want, outcome(start.make(), call));
    }

    /** The call answers so, and nothing changes. */
    static void tells(Object want, Start start, Call call) {
        answers(want, start, call);
        due("what is seen then", start.seen().told(), new Seen(start, call).told());
    }

    /** The call throws just this exception, and nothing changes. */
    static void refuses(Class<?> exception, Start start, Call call) {
        tells(exception.getName(), start, call);
    }

    static void refuses(Class<?> exception, Start start, CallWith call, int... arguments) {
        for (int argument : arguments) {
            refuses(exception, start, x -> call.on(x, argument));
        }
    }

    /** The number is put there, and its sign is told. */
    static void puts(Object number, Start start, int register, Call call) {
        Biglaws x = start.make();
        due("the sign that is told", big(number).signum(), outcome(x, call));
        due("the number", number, number(x, register));
    }

    /** The call answers so and puts a number there, as one change that can be taken back, and nothing else. */
    static void changes(Object want, Start start, int register, Object number, Call call) {
        answers(want, start, call);
        Seen due = start.seen().afterChange(register, big(number));
        due("what is seen then", due.told(), new Seen(start, call).told());
        due("what is seen after undo", start.seen().told(), new Seen(start, andUndo(call)).told());
    }

    /** As changes(), with the text taken away, which undo doesn't bring back. */
    static void reads(Start start, String text, int register, Object number, Call call) {
        answers(text.length(), start, call);
        Seen due = start.seen().afterChange(register, big(number)).withoutText();
        due("what is seen after '" + text + "'", due.told(), new Seen(start, call).told());
        Seen undone = start.seen().withoutText();
        due("what is seen after undo", undone.told(), new Seen(start, andUndo(call)).told());
    }

    private static Call andUndo(Call call) {
        return x -> {
            call.on(x);
            return x.undo();
        };
    }

    /** What is seen after the one call is what is seen after the other. */
    static void same(Start start, Call call, Start other, Call otherCall) {
        due("what is seen", new Seen(other, otherCall).told(), new Seen(start, call).told());
    }

    /** Each call answers for the registers 0 and 15, and refuses those next to them. */
    static void registers(Start start, CallWith... calls) {
        for (CallWith call : calls) {
            for (int register : OUTERMOST_REGISTERS) {
                String got = outcome(start.make(), x -> call.on(x, register));
                due("register " + register, "no exception", got.startsWith("java") ? got : "no exception");
            }
        }
        noRegisters(start, calls);
    }

    /** Each call refuses the registers that there are not, whatever else is to be refused. */
    static void noRegisters(Start start, CallWith... calls) {
        for (CallWith call : calls) {
            refuses(IndexOutOfBoundsException.class, start, call, NO_REGISTERS);
        }
    }
}
