import java.io.IOException;
import java.lang.reflect.Constructor;
import java.lang.reflect.Executable;
import java.lang.reflect.Field;
import java.lang.reflect.Method;
import java.lang.reflect.Modifier;
import java.nio.file.Files;
import java.nio.file.Path;
import java.util.ArrayList;
import java.util.List;
import java.util.Set;
import java.util.TreeSet;
import java.util.regex.Matcher;
import java.util.regex.Pattern;

/** The face against the document's text, and what of LANGUAGE.md can be told from the source. */
public final class BiglawsSource {
    private static final Path SOURCE = Path.of("src/main/java/Biglaws.java");
    private static final Path DOCUMENT = Path.of("../shared/DOC.md");
    private static final String[] RULED_OUT = {
        "->", "::", "\\btry\\b", "\\bcatch\\b", "\\bfinally\\b", "\\bsynchronized\\b", "\\bassert\\b",
        "\\bBigInteger\\b", "\\binstanceof\\b", "\\bstatic\\s*\\{", "Exact\\(\\s*\\w+\\s*,", "\\bSystem\\.", "\\bThread\\b",
        "\\.equals\\(", "\\bhashCode\\b", "\\btoString\\b", "\\bprotected\\b", "\\bvar\\b", "\\bpackage\\b", "\\?\\s*extends"};

    /** Those of LANGUAGE.md's rule 6 that the document names, and NumberFormatException, which it names besides. */
    private static final Set<String> THROWN = Set.of("IllegalStateException", "IllegalArgumentException", "IndexOutOfBoundsException",
            "ArithmeticException", "NoSuchElementException", "NumberFormatException");

    private static int wrong = 0;

    private static void wrong(String what) {
        wrong++;
        System.out.println(what);
    }

    private static String withoutComments(String source) {
        return source.replaceAll("(?s)/\\*.*?\\*/", " ").replaceAll("//[^\\n]*", " ");
    }

    private static void checkRuledOut(String source) {
        for (String pattern : RULED_OUT) {
            if (Pattern.compile(pattern).matcher(source).find()) {
                wrong("the source has " + pattern);
            }
        }
        Matcher imports = Pattern.compile("\\bimport\\s+([^;]+);").matcher(source);
        while (imports.find()) {
            if (!imports.group(1).equals("java.util.NoSuchElementException")) {
                wrong("the source imports " + imports.group(1));
            }
        }
    }

    private static void checkThrown(String source) {
        Matcher thrown = Pattern.compile("\\bthrow\\b\\s*(new\\s+(\\w+)\\s*\\((\"[^\"]*\")?\\);)?").matcher(source);
        while (thrown.find()) {
            if (thrown.group(2) == null || !THROWN.contains(thrown.group(2))) {
                wrong("the source has " + thrown.group());
            }
        }
    }

    private static String told(Executable member) {
        StringBuilder all = new StringBuilder();
        if (member instanceof Method) {
            all.append(((Method) member).getReturnType().getSimpleName()).append(' ').append(member.getName());
        } else {
            all.append("Biglaws");
        }
        List<String> types = new ArrayList<>();
        for (Class<?> type : member.getParameterTypes()) {
            types.add(type.getSimpleName());
        }
        all.append('(').append(String.join(", ", types)).append(')');
        List<String> thrown = new ArrayList<>();
        for (Class<?> type : member.getExceptionTypes()) {
            thrown.add(type.getSimpleName());
        }
        return all.append(thrown.isEmpty() ? "" : " throws ").append(String.join(", ", thrown)).toString();
    }

    private static Set<String> face() {
        Set<String> all = new TreeSet<>();
        for (Constructor<?> constructor : Biglaws.class.getDeclaredConstructors()) {
            all.add(told(constructor));
        }
        for (Method method : Biglaws.class.getDeclaredMethods()) {
            if (!Modifier.isPrivate(method.getModifiers())) {
                all.add(told(method));
            }
        }
        return all;
    }

    private static Set<String> documentedFace(String document) {
        Set<String> all = new TreeSet<>();
        String face = document.substring(document.indexOf("public final class"), document.indexOf("## Terms"));
        Matcher lines = Pattern.compile("    public ([^\\n]*);").matcher(face);
        while (lines.find()) {
            all.add(lines.group(1).replaceAll("\\b(int|long|char) \\w+(?=[,)])", "$1"));
        }
        return all;
    }

    /** The face is public, and nothing else that is not private or within a class inside. */
    private static void checkModifiers() {
        int modifiers = Biglaws.class.getModifiers();
        if (!Modifier.isPublic(modifiers) || !Modifier.isFinal(modifiers) || Biglaws.class.getSuperclass() != Object.class) {
            wrong("the class is not public and final, or extends another one");
        }
        List<Executable> members = new ArrayList<>(List.of(Biglaws.class.getDeclaredConstructors()));
        members.addAll(List.of(Biglaws.class.getDeclaredMethods()));
        for (Executable member : members) {
            if (!Modifier.isPublic(member.getModifiers()) && !Modifier.isPrivate(member.getModifiers())) {
                wrong(member + " is neither public nor private");
            }
            if (Modifier.isPublic(member.getModifiers()) && (Modifier.isStatic(member.getModifiers()) || member.isVarArgs())) {
                wrong(member + " is static, or takes any number of arguments");
            }
        }
        for (Class<?> each : Biglaws.class.getDeclaredClasses()) {
            boolean isSeen = Modifier.isPublic(each.getModifiers()) || Modifier.isProtected(each.getModifiers());
            if (isSeen || !Modifier.isStatic(each.getModifiers())) {
                wrong(each + " is public or protected, or not static");
            }
        }
    }

    private static void checkNames() {
        Set<String> names = new TreeSet<>();
        for (Method method : Biglaws.class.getDeclaredMethods()) {
            if (Modifier.isPublic(method.getModifiers())) {
                names.add(method.getName());
            }
        }
        List<Class<?>> classes = new ArrayList<>(List.of(Biglaws.class.getDeclaredClasses()));
        classes.add(Biglaws.class);
        for (Class<?> each : classes) {
            for (Method method : each.getDeclaredMethods()) {
                boolean isFace = each == Biglaws.class && Modifier.isPublic(method.getModifiers());
                if (!isFace && names.contains(method.getName())) {
                    wrong(each.getSimpleName() + "." + method.getName() + " bears the name of a public method");
                }
                if (method.getParameterCount() > 7) {
                    wrong(each.getSimpleName() + "." + method.getName() + " has too many parameters");
                }
            }
            checkFields(each);
        }
        if (classes.size() > 13) {
            wrong("too many classes");
        }
    }

    private static void checkFields(Class<?> each) {
        int fields = 0;
        for (Field field : each.getDeclaredFields()) {
            boolean isStatic = Modifier.isStatic(field.getModifiers());
            fields += isStatic ? 0 : 1;
            if (isStatic && !Modifier.isFinal(field.getModifiers())) {
                wrong(each.getSimpleName() + "." + field.getName() + " is static and not final");
            }
            if (each == Biglaws.class && !Modifier.isPrivate(field.getModifiers())) {
                wrong(field.getName() + " is not private");
            }
        }
        if (fields > 20) {
            wrong(each.getSimpleName() + " has too many fields");
        }
    }

    public static void main(String[] args) throws IOException {
        String source = withoutComments(Files.readString(SOURCE));
        checkRuledOut(source);
        checkThrown(source);
        Set<String> want = documentedFace(Files.readString(DOCUMENT));
        if (want.size() != 45 || !want.equals(face())) {
            Set<String> more = new TreeSet<>(face());
            more.removeAll(want);
            want.removeAll(face());
            wrong("the face lacks " + want + " and has more than it: " + more);
        }
        checkModifiers();
        checkNames();
        System.out.println(wrong == 0 ? "the source keeps to the rules that are looked at" : wrong + " faults");
        if (wrong != 0) {
            System.exit(1);
        }
    }
}
