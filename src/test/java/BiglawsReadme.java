/** What README.md says of the use of the class. */
public final class BiglawsReadme {
    private static int wrong = 0;

    private static void due(String what, long want, long got) {
        if (want != got) {
            wrong++;
            System.out.println(what + ": " + got + ", due is " + want);
        }
    }

    private static void dividesAndTakesBack(Biglaws x) {
        x.set(0, 17);
        x.set(1, -5);
        x.divideBoth(2, 3, 0, 1);
        due("register 2", -3, x.longExact(2));
        due("register 3", 2, x.longExact(3));
        due("changes left", 2, x.undo());
        due("register 2 as it was", 0, x.longExact(2));
        due("register 3 as it was", 0, x.longExact(3));
    }

    private static void typesAndReads(Biglaws x) {
        String text = "-12345678901234567890";
        for (char sign : text.toCharArray()) {
            x.type(sign);
        }
        due("signs read", 21, x.read(4));
        due("signs typed then", 0, x.erase());
        due("the length", 21, x.length(4));
        for (int i = 0; i < text.length(); i++) {
            due("the sign at " + i, text.charAt(i), x.signAt(4, i));
        }
    }

    private static void refusedTextStays(Biglaws x) {
        x.type('z');
        try {
            x.read(4);
            due("a text that is no number was read", 0, 1);
        } catch (NumberFormatException e) {
            due("signs typed still", 1, x.erase());
        }
    }

    private static void addsToItself(Biglaws x) {
        due("the sign", 1, x.add(0, 0, 0));
        due("twice 17", 34, x.intExact(0));
    }

    public static void main(String[] args) {
        Biglaws x = new Biglaws();
        dividesAndTakesBack(x);
        typesAndReads(x);
        refusedTextStays(x);
        addsToItself(x);
        System.out.println(wrong == 0 ? "as README.md says" : wrong + " faults");
        if (wrong != 0) {
            System.exit(1);
        }
    }
}
