import java.io.IOException;
import java.lang.reflect.Constructor;
import java.lang.reflect.Field;
import java.lang.reflect.Member;
import java.lang.reflect.Method;
import java.lang.reflect.Modifier;
import java.nio.file.Files;
import java.nio.file.Path;
import java.util.Set;
import java.util.TreeSet;
import java.util.regex.Matcher;
import java.util.regex.Pattern;

/** The face is the document's and no more, and the source keeps to those rules of LANGUAGE.md that a look can tell. */
public final class FaceTest {
    private static final String INDEX = "IndexOutOfBoundsException";
    private static final String ARGUMENT = "IllegalArgumentException";
    private static final String STATE = "IllegalStateException";
    private static final String FORMAT = "NumberFormatException";
    private static final String ELEMENT = "NoSuchElementException";

    private static final Set<String> FACE = Set.of(
            "int type(long) " + ARGUMENT + " " + STATE,
            "int wipe()",
            "int reverse()",
            "int cut(int int) " + INDEX,
            "int setSign(int int) " + INDEX + " " + ARGUMENT,
            "int capitals(boolean)",
            "int read(int int) " + INDEX + " " + FORMAT + " " + STATE,
            "int write(int int) " + INDEX + " " + STATE,
            "int change(int int) " + FORMAT + " " + STATE,
            "int hear(int int int) " + INDEX + " " + FORMAT + " " + STATE,
            "int set(int long) " + INDEX,
            "int add(int int) " + INDEX + " " + STATE,
            "int multiply(int int int) " + INDEX + " " + STATE,
            "int negate(int) " + INDEX,
            "int step(int int boolean) " + INDEX + " " + ARGUMENT + " " + STATE,
            "int undo() " + ELEMENT,
            "int length()",
            "int signAt(int) " + INDEX,
            "boolean isNumber(int)",
            "int leastBase()",
            "int compare(int int) " + INDEX,
            "int signum(int) " + INDEX,
            "int digits(int int) " + INDEX + " " + ARGUMENT,
            "int digitAt(int int int) " + INDEX + " " + ARGUMENT + " " + ELEMENT,
            "int sumOfDigits(int int) " + INDEX + " " + ARGUMENT,
            "boolean isMirrored(int int) " + INDEX + " " + ARGUMENT,
            "long low(int) " + INDEX,
            "double meanDigit(int int) " + INDEX + " " + ARGUMENT,
            "float digitShare(int) " + ARGUMENT,
            "int errors()");

    /** What the rules leave out; comments and texts are taken out before it is looked for. */
    private static final String[] ABSENT = {
        "::", "\\bfinally\\b", "\\bsynchronized\\b", "\\bassert\\b", "Exact\\(", "\\bpackage\\b", "\\bimport static\\b",
        "\\bstatic \\{", "\\b(Strict)?Math\\.(sqrt|pow|log|random|round|floor|ceil)\\b", "\\bNaN\\b", "\\bRandom\\b",
        "\\bThread\\b", "\\bSystem\\.(?!arraycopy\\b)", "\\bBigInteger\\b", "\\bequals\\(Object\\b", "\\bhashCode\\b",
        "\\bcatch \\([^)]*\\b(Throwable|Error|Exception|RuntimeException|NullPointerException|ClassCastException"
            + "|ArrayIndexOutOfBoundsException|NegativeArraySizeException|ArrayStoreException)\\b"};

    private static final String[] IMPORTS = {"ArrayList", "Arrays", "Iterator", "List", "NoSuchElementException"};

    /** NumberFormatException is the document's own, beside those of rule 6. */
    private static final String THROWN = "(IllegalState|IllegalArgument|IndexOutOfBounds|Arithmetic"
            + "|UnsupportedOperation|NoSuchElement|Runtime|NumberFormat)Exception";

    private static int wrong = 0;

    public static void main(String[] args) throws IOException {
        checkMethods();
        checkOtherMembers();
        checkNestedClasses();
        if (args.length > 0) {
            checkSource(Files.readString(Path.of(args[0])));
        }
        System.out.println(wrong == 0 ? "the face is as due" : wrong + " things are not as due");
        if (wrong != 0) {
            System.exit(1);
        }
    }

    private static void checkMethods() {
        Set<String> got = new TreeSet<>();
        for (Method method : Radixtape.class.getDeclaredMethods()) {
            if (Modifier.isPublic(method.getModifiers())) {
                got.add(described(method));
                due(method + " is static", !Modifier.isStatic(method.getModifiers()));
            } else {
                due(method + " is not private", isPrivate(method));
                due(method + " bears the name of a public one", !publicNames().contains(method.getName()));
                due(method + " is a lambda", !method.getName().startsWith("lambda$"));
            }
        }
        for (String method : FACE) {
            due("missing: " + method, got.contains(method));
        }
        for (String method : got) {
            due("not in the document: " + method, FACE.contains(method));
        }
    }

    private static Set<String> publicNames() {
        Set<String> names = new TreeSet<>();
        for (String method : FACE) {
            names.add(method.substring(method.indexOf(' ') + 1, method.indexOf('(')));
        }
        return names;
    }

    private static String described(Method method) {
        return method.getReturnType() + " " + method.getName() + "(" + listed(method.getParameterTypes()) + ")"
                + (method.getExceptionTypes().length > 0 ? " " : "") + listed(method.getExceptionTypes());
    }

    private static String listed(Class<?>[] types) {
        StringBuilder list = new StringBuilder();
        for (Class<?> type : types) {
            list.append(list.length() > 0 ? " " : "").append(type.getSimpleName());
        }
        return list.toString();
    }

    private static void checkOtherMembers() {
        int modifiers = Radixtape.class.getModifiers();
        due("the class is not public and final", Modifier.isPublic(modifiers) && Modifier.isFinal(modifiers));
        Constructor<?>[] constructors = Radixtape.class.getDeclaredConstructors();
        due("not one public constructor without arguments", constructors.length == 1
                && Modifier.isPublic(constructors[0].getModifiers()) && constructors[0].getParameterCount() == 0);
        for (Field field : Radixtape.class.getDeclaredFields()) {
            boolean isNone = field.getName().equals("NONE") && Modifier.isPublic(field.getModifiers());
            due(field + " is not private", isNone || isPrivate(field));
            due(field + " is static but not final", !Modifier.isStatic(field.getModifiers())
                    || Modifier.isFinal(field.getModifiers()));
        }
    }

    private static void checkNestedClasses() {
        Set<String> names = publicNames();
        Class<?>[] classes = Radixtape.class.getDeclaredClasses();
        due("too many classes", classes.length <= 12);
        for (Class<?> inside : classes) {
            int modifiers = inside.getModifiers();
            due(inside + " is public", !Modifier.isPublic(modifiers) && !Modifier.isProtected(modifiers));
            for (Method method : inside.getDeclaredMethods()) {
                boolean bearsName = isPrivate(method) && names.contains(method.getName());
                due(method + " bears the name of a public one", !bearsName);
            }
        }
    }

    private static void checkSource(String source) {
        String bare = withoutTexts(source);
        for (String words : ABSENT) {
            due("the source has: " + words, !Pattern.compile(words).matcher(bare).find());
        }
        for (String line : bare.split("\n")) {
            String part = line.strip();
            due("another import: " + part, !part.startsWith("import ") || isAllowedImport(part));
        }
        Matcher thrown = Pattern.compile("\\bthrow\\b *(new *(?:java\\.\\w+\\.)?(\\w+))?").matcher(bare);
        while (thrown.find()) {
            String name = thrown.group(2);
            due("another exception is thrown: " + name, name != null && name.matches(THROWN));
        }
    }

    private static boolean isAllowedImport(String line) {
        for (String name : IMPORTS) {
            if (line.equals("import java.util." + name + ";")) {
                return true;
            }
        }
        return false;
    }

    private static String withoutTexts(String source) {
        return source.replaceAll("\"(\\\\.|[^\"\\\\\n])*\"", "\"\"").replaceAll("(?s)/\\*.*?\\*/", "").replaceAll("//.*", "");
    }

    private static boolean isPrivate(Member member) {
        return Modifier.isPrivate(member.getModifiers());
    }

    private static void due(String fault, boolean isDue) {
        if (!isDue) {
            wrong++;
            System.out.println(fault);
        }
    }
}
