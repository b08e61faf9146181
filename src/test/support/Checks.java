import java.math.BigInteger;
import java.util.NoSuchElementException;

/** What the tests of the promises and of the sentences have in common. */
abstract class Checks {
    static final BigInteger LIMIT = BigInteger.ONE.shiftLeft(800);
    static final BigInteger GREATEST = LIMIT.subtract(BigInteger.ONE);
    static final Class<?> INDEX = IndexOutOfBoundsException.class;
    static final Class<?> ARGUMENT = IllegalArgumentException.class;
    static final Class<?> STATE = IllegalStateException.class;
    static final Class<?> FORMAT = NumberFormatException.class;
    static final Class<?> ELEMENT = NoSuchElementException.class;

    private static final int MORE_THAN_UNDOABLE = 25;

    private static int wrong = 0;
    private static String ahead = "";

    /** Makes the same object each time. */
    interface Recipe {
        Radixtape make();
    }

    interface Call {
        void on(Radixtape x);
    }

    // ---- making objects

    static Radixtape tape(String text) {
        Radixtape x = new Radixtape();
        typeText(x, text);
        return x;
    }

    static void typeText(Radixtape x, String text) {
        long signs = 0;
        for (int i = 0; i < text.length(); i++) {
            signs = signs << 8 | text.charAt(i);
            if (i % 8 == 7 || i == text.length() - 1) {
                x.type(signs);
                signs = 0;
            }
        }
    }

    static Radixtape withRegister(int register, BigInteger number) {
        Radixtape x = new Radixtape();
        putRegister(x, register, number);
        return x;
    }

    static Radixtape withRegister(int register, long number) {
        Radixtape x = new Radixtape();
        x.set(register, number);
        return x;
    }

    /** Goes by set and multiply, whose answers other promises hold to BigInteger's. */
    static void putRegister(Radixtape x, int register, BigInteger number) {
        BigInteger size = number.abs();
        x.set(register, 0);
        for (int part = (size.bitLength() + 29) / 30 - 1; part >= 0; part--) {
            int bits = size.shiftRight(30 * part).intValue() & (1 << 30) - 1;
            x.multiply(register, 1 << 30, bits);
        }
        if (number.signum() < 0) {
            x.negate(register);
        }
    }

    // ---- looking at objects

    static String textOf(Radixtape x) {
        StringBuilder text = new StringBuilder();
        for (int i = 0; i < x.length(); i++) {
            text.append((char) x.signAt(i));
        }
        return text.toString();
    }

    static BigInteger numberOf(Radixtape x, int register) {
        StringBuilder digits = new StringBuilder();
        for (int i = x.digits(register, 32) - 1; i >= 0; i--) {
            digits.append(Character.forDigit(x.digitAt(register, 32, i), 32));
        }
        BigInteger size = new BigInteger(digits.toString(), 32);
        return x.signum(register) < 0 ? size.negate() : size;
    }

    static String stateOf(Radixtape x) {
        StringBuilder state = new StringBuilder(textOf(x));
        for (int register = 0; register < 4; register++) {
            state.append('|').append(x.signum(register)).append(',').append(numberOf(x, register));
        }
        return state.toString();
    }

    /** The state and all that undoing brings back; the object is used up by it. */
    static String historyOf(Radixtape x) {
        StringBuilder history = new StringBuilder(stateOf(x));
        for (int i = 0; i < MORE_THAN_UNDOABLE; i++) {
            try {
                history.append('\n').append(x.undo());
            } catch (NoSuchElementException e) {
                return history.toString();
            }
            history.append(':').append(stateOf(x));
        }
        return history.append("\nno end").toString();
    }

    /** How many changes can be undone; the object is used up by it. */
    static int undoableOf(Radixtape x) {
        int count = 0;
        while (count < MORE_THAN_UNDOABLE && thrownBy(x, Radixtape::undo) == null) {
            count++;
        }
        return count;
    }

    static Class<?> thrownBy(Radixtape x, Call call) {
        try {
            call.on(x);
        } catch (RuntimeException e) {
            return e.getClass();
        }
        return null;
    }

    // ---- what is due

    /** Puts words ahead of every report from now on. */
    static void about(String words) {
        ahead = words;
    }

    static void due(String what, long got, long want) {
        if (got != want) {
            report(what + " answered " + got + ", due is " + want);
        }
    }

    static void due(String what, boolean got, boolean want) {
        if (got != want) {
            report(what + " answered " + got + ", due is " + want);
        }
    }

    static void dueReal(String what, double got, double want) {
        if (got != want) {
            report(what + " answered " + got + ", due is " + want);
        }
    }

    static void dueString(String what, String got, String want) {
        if (!got.equals(want)) {
            report(what + " is " + got + ", due is " + want);
        }
    }

    static void dueText(String what, Radixtape x, String want) {
        dueString(what, textOf(x), want);
    }

    static void dueNumber(String what, Radixtape x, int register, BigInteger want) {
        due(what + ", its signum", x.signum(register), want.signum());
        dueString(what, numberOf(x, register).toString(), want.toString());
    }

    static void dueNumber(String what, Radixtape x, int register, long want) {
        dueNumber(what, x, register, BigInteger.valueOf(want));
    }

    static void dueThrown(String what, Class<?> got, Class<?> want) {
        if (got != want) {
            report(what + " throws " + got + ", due is " + want);
        }
    }

    /** The very exception is due, and the tape and the registers are as they were. */
    static void refused(String what, Class<?> want, Radixtape x, Runnable call) {
        String before = stateOf(x);
        dueThrown(what, thrownBy(x, same -> call.run()), want);
        dueString(what + " changes nothing", stateOf(x), before);
    }

    /** The very exception is due, and nothing is another one by it, nor what undoing brings back. */
    static void refuses(String what, Class<?> want, Recipe recipe, Call call) {
        Radixtape called = recipe.make();
        dueThrown(what, thrownBy(called, call), want);
        dueString(what + " leaves what", historyOf(called), historyOf(recipe.make()));
    }

    static void report(String line) {
        wrong++;
        String told = ahead + line;
        System.out.println(told.length() > 600 ? told.substring(0, 600) + " .." : told);
    }

    /** Ends the test, with 1 if something was not as due. */
    static void end(String good) {
        System.out.println(wrong == 0 ? good : wrong + " things are not as due");
        if (wrong != 0) {
            System.exit(1);
        }
    }
}
