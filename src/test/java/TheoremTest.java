import java.io.IOException;
import java.nio.file.Files;
import java.nio.file.Path;

/**
 * What errors() looks at (promise 31). It answers 0 always, so each check is shown by a broken version of the class:
 * the class's text with other words, in which that check alone can find what is not so.
 */
public final class TheoremTest extends Checks {
    /** Broken versions ask for the one base, or the one digit, for which they are broken. */
    private static final String BROKEN_BASE = "broken.base";
    private static final String BROKEN_DIGIT = "broken.digit";
    private static final String IS_BROKEN_BASE = "base == Integer.getInteger(\"" + BROKEN_BASE + "\", 0)";

    private static final String READ_REFUSES =
            "if (!isBase(base) || start >= signs.count) {\n            return IS_NO_NUMBER;";
    private static final String FORM_REFUSES =
            "if (!isBase(base) || start >= signs.count) {\n            return false;";
    private static final String NO_ZERO_AHEAD =
            "return text.at(start) != '0' || text.count == start + 1 && number.sign == 0;";
    private static final String COUNT_BY_POWERS = "text.count - start != digitsByPowers(number, base)";
    private static final String ZEROS_DROPPED = "spelled.dropZerosBehind();";

    private static final int BASES = 35;

    private static String source = "";

    public static void main(String[] args) throws ReflectiveOperationException, IOException {
        String path = args.length > 0 ? args[0] : "src/main/java/Radixtape.java";
        source = Files.readString(Path.of(path)).replace("\r\n", "\n");
        wholeClassHasNoErrors();
        writtenIsReadAsTheNumber();
        plusIsPutAhead();
        capitalsAreRead();
        zerosArePutAhead();
        formIsLookedAt();
        digitsAreCountedByPowers();
        eachRegisterIsLookedAt();
        eachBaseIsLookedAt();
        tapeIsLookedAtInEachBase();
        end("each check of the theorem is made");
    }

    private static void wholeClassHasNoErrors() throws ReflectiveOperationException, IOException {
        Class<?> whole = withOtherWords();
        for (String tape : new String[] {"", "-", "+1", "-fF", "1!", "zz"}) {
            due("the whole class on " + tape, errorsOf(whole, tape, 0, 255, -255, Long.MIN_VALUE), 0);
        }
    }

    private static void writtenIsReadAsTheNumber() throws ReflectiveOperationException, IOException {
        Class<?> broken = withOtherWords(READ_REFUSES, READ_REFUSES.replace(") {", " || signs.at(0) >= 'a') {"));
        finds("what is written is not read", broken, "", 0, 0, 255, 0);
        findsNone("what is written is read", broken, "", 0, 1, 1, 0);
        Class<?> other = withOtherWords("return number.isHeld() ? IS_READ : IS_TOO_LARGE;",
                "number.sign = 1;\n        return IS_READ;");
        finds("what is written is read as another number", other, "", -5, -5, -5, -5);
        findsNone("what is written is read as the number", other, "", 5, 5, 5, 5);
    }

    private static void plusIsPutAhead() throws ReflectiveOperationException, IOException {
        Class<?> broken = withOtherWords("return first == '+' || first == '-' ? 1 : 0;",
                "return first == '-' ? 1 : 0;");
        due("errors() where a plus ahead of 5 is refused", errorsOf(broken, "", 5, -5, -5, -5), BASES);
        due("errors() where a plus ahead of 0 is refused", errorsOf(broken, "", -5, 0, -5, 0), 2 * BASES);
        findsNone("no plus is put ahead of what is below 0", broken, "", -5, -1, -77, Long.MIN_VALUE);
    }

    private static void capitalsAreRead() throws ReflectiveOperationException, IOException {
        Class<?> broken = withOtherWords("return sign - 'A' + 10;", "return NONE;");
        due("errors() where capitals are refused, as 10 has one from base 11 on", errorsOf(broken, "", 1, 10, 1, 1), 26);
        finds("capitals behind a minus are refused", broken, "", 1, 1, 1, -255);
        findsNone("there are no letters in 1", broken, "", 1, 1, 1, -1);
    }

    private static void zerosArePutAhead() throws ReflectiveOperationException, IOException {
        Class<?> broken = withOtherWords(READ_REFUSES, READ_REFUSES.replace(") {",
                " || signs.count > start + 1 && signs.at(start) == '0') {"));
        finds("digits 0 ahead are refused", broken, "", 5, 5, 5, 5);
        finds("digits 0 behind a minus are refused", broken, "", -5, -5, -5, -5);
    }

    /** Whatever else could find the same is taken out of each of these versions. */
    private static void formIsLookedAt() throws ReflectiveOperationException, IOException {
        Class<?> large = withOtherWords("'a' + digit - 10",
                "(digit == Integer.getInteger(\"" + BROKEN_DIGIT + "\", 0) ? 'A' : 'a') + digit - 10");
        for (int digit = 10; digit < 36; digit++) {
            System.setProperty(BROKEN_DIGIT, String.valueOf(digit));
            finds("the digit " + digit + " is written as a capital", large, "", 0, 0, digit, 0);
        }
        Class<?> zeros = withOtherWords(ZEROS_DROPPED, "", COUNT_BY_POWERS, "start < 0");
        finds("digits 0 are written ahead", zeros, "", 5, 5, 5, 5);
        Class<?> minus = withOtherWords("if (number.sign < 0) {\n            signs.append('-');",
                "if (number.sign <= 0) {\n            signs.append('-');",
                "if (number.sign >= 0) {\n            variant.clear();",
                "if (number.sign > 0) {\n            variant.clear();");
        finds("a minus is written ahead of 0", minus, "", 1, 1, 1, 0);
        findsNone("a minus is written ahead of -1", minus, "", 1, 1, 1, -1);
    }

    private static void digitsAreCountedByPowers() throws ReflectiveOperationException, IOException {
        Class<?> zeros = withOtherWords(ZEROS_DROPPED, "", NO_ZERO_AHEAD, "return true;");
        finds("there are more digits than the powers tell", zeros, "", 5, 5, 5, 5);
        Class<?> none = withOtherWords(COUNT_BY_POWERS, COUNT_BY_POWERS.replace("!=", "=="));
        finds("there are other digits than the powers tell", none, "", 5, 5, 5, 5);
    }

    private static void eachRegisterIsLookedAt() throws ReflectiveOperationException, IOException {
        Class<?> broken = withOtherWords("return sign - 'A' + 10;", "return NONE;");
        for (int register = 0; register < 4; register++) {
            long[] numbers = {1, 1, 1, 1};
            numbers[register] = 35;
            finds("register " + register, broken, "", numbers);
        }
    }

    private static void eachBaseIsLookedAt() throws ReflectiveOperationException, IOException {
        Class<?> broken = withOtherWords("int divisor = isBase(base) ? base : USUAL_BASE;",
                "int divisor = " + IS_BROKEN_BASE + " ? base + 1 : isBase(base) ? base : USUAL_BASE;");
        for (int base = -1; base <= 40; base++) {
            System.setProperty(BROKEN_BASE, String.valueOf(base));
            if (base >= 2 && base <= 36) {
                finds("another base is written in place of " + base, broken, "", 1, 1, 1, 1000);
            } else {
                findsNone("no base is " + base, broken, "", 1, 1, 1, 1000);
            }
        }
    }

    private static void tapeIsLookedAtInEachBase() throws ReflectiveOperationException, IOException {
        Class<?> refused = withOtherWords(FORM_REFUSES, FORM_REFUSES.replace("!isBase(base)", IS_BROKEN_BASE));
        Class<?> taken = withOtherWords(FORM_REFUSES,
                FORM_REFUSES.replace("return false;", "return " + IS_BROKEN_BASE + ";"));
        for (int base = 2; base <= 36; base++) {
            System.setProperty(BROKEN_BASE, String.valueOf(base));
            finds("the tape has not the form, and is taken in " + base, refused, "1", 0, 0, 0, 0);
            finds("the tape has the form, and is refused in " + base, taken, "-", 0, 0, 0, 0);
        }
    }

    // ---- broken versions

    /** Other words in place of words that stand in the class just once: words, other words, words, and so on. */
    private static Class<?> withOtherWords(String... words) throws ReflectiveOperationException, IOException {
        String text = source;
        for (int i = 0; i + 1 < words.length; i += 2) {
            int place = text.indexOf(words[i]);
            if (place < 0 || text.indexOf(words[i], place + 1) >= 0) {
                throw new IllegalStateException("not just once in the class, so this test wants others: " + words[i]);
            }
            text = text.replace(words[i], words[i + 1]);
        }
        // With the platform's loader above it, it does not come upon the class that is not broken.
        return new Compiled(ClassLoader.getPlatformClassLoader(), "Radixtape", text).loadClass("Radixtape");
    }

    private static int errorsOf(Class<?> version, String tape, long... numbers) throws ReflectiveOperationException {
        Object x = version.getConstructor().newInstance();
        for (int i = 0; i < tape.length(); i++) {
            version.getMethod("type", long.class).invoke(x, (long) tape.charAt(i));
        }
        for (int register = 0; register < numbers.length; register++) {
            version.getMethod("set", int.class, long.class).invoke(x, register, numbers[register]);
        }
        return (int) version.getMethod("errors").invoke(x);
    }

    private static void finds(String what, Class<?> broken, String tape, long... numbers)
            throws ReflectiveOperationException {
        due("errors() finds that " + what + ", which", errorsOf(broken, tape, numbers) > 0, true);
    }

    private static void findsNone(String what, Class<?> broken, String tape, long... numbers)
            throws ReflectiveOperationException {
        due("errors() where " + what, errorsOf(broken, tape, numbers), 0);
    }
}
