import java.math.BigInteger;
import java.util.ArrayDeque;
import java.util.NoSuchElementException;
import java.util.Random;

/** Long runs of calls, each answer held against a model made of BigInteger and String. */
public final class ModelTest {
    private static final int RUNS = 300;
    private static final int CALLS = 512;
    private static final int KINDS = 30;
    private static final BigInteger LIMIT = BigInteger.ONE.shiftLeft(800);

    private static int wrong = 0;

    private interface Answer {
        Object give();
    }

    /** The document over again, in the plainest words of the Java library. */
    private static final class Model {
        String tape = "";
        BigInteger[] registers = {BigInteger.ZERO, BigInteger.ZERO, BigInteger.ZERO, BigInteger.ZERO};
        final ArrayDeque<String> tapes = new ArrayDeque<>();
        final ArrayDeque<BigInteger[]> numbers = new ArrayDeque<>();

        void change(String newTape) {
            tapes.addLast(tape);
            numbers.addLast(registers.clone());
            if (tapes.size() > 20) {
                tapes.removeFirst();
                numbers.removeFirst();
            }
            tape = newTape;
        }

        int put(int register, BigInteger number) {
            if (number.abs().compareTo(LIMIT) >= 0) {
                throw new IllegalStateException();
            }
            change(tape);
            registers[register] = number;
            return number.signum();
        }

        BigInteger at(int register) {
            if (register < 0 || register > 3) {
                throw new IndexOutOfBoundsException();
            }
            return registers[register];
        }

        static int base(int base) {
            if (base < 2 || base > 36) {
                throw new IllegalArgumentException();
            }
            return base;
        }

        static boolean isNumber(String text, int base) {
            if (base < 2 || base > 36) {
                return false;
            }
            String known = "0123456789abcdefghijklmnopqrstuvwxyz".substring(0, base);
            return text.matches("[+-]?[" + known + known.toUpperCase() + "]+");
        }

        static BigInteger parsed(String text, int base) {
            if (!isNumber(text, base)) {
                throw new NumberFormatException();
            }
            return new BigInteger(text, base);
        }

        static BigInteger held(BigInteger number) {
            if (number.abs().compareTo(LIMIT) >= 0) {
                throw new IllegalStateException();
            }
            return number;
        }

        static String written(BigInteger number, int base) {
            return number.toString(base < 2 || base > 36 ? 10 : base);
        }

        String digits(int register, int base) {
            return at(register).abs().toString(base(base));
        }

        int append(String signs) {
            if (tape.length() + signs.length() > 1200) {
                throw new IllegalStateException();
            }
            change(tape + signs);
            return tape.length();
        }

        int type(long signs) {
            StringBuilder typed = new StringBuilder();
            for (int i = 7; i >= 0; i--) {
                int sign = (int) (signs >> 8 * i) & 0xFF;
                if (sign != 0 && (sign < 32 || sign > 126)) {
                    throw new IllegalArgumentException();
                }
                if (sign != 0) {
                    typed.append((char) sign);
                }
            }
            return append(typed.toString());
        }

        int wipe() {
            int before = tape.length();
            change("");
            return before;
        }

        int reverse() {
            change(new StringBuilder(tape).reverse().toString());
            return tape.length();
        }

        int cut(int from, int to) {
            if (from < 0 || to > tape.length() || from > to) {
                throw new IndexOutOfBoundsException();
            }
            change(tape.substring(0, from) + tape.substring(to));
            return tape.length();
        }

        int setSign(int index, int sign) {
            int before = signAt(index);
            if (sign < 32 || sign > 126) {
                throw new IllegalArgumentException();
            }
            change(tape.substring(0, index) + (char) sign + tape.substring(index + 1));
            return before;
        }

        int capitals(boolean areCapitals) {
            String before = tape;
            change(areCapitals ? tape.toUpperCase() : tape.toLowerCase());
            int changed = 0;
            for (int i = 0; i < tape.length(); i++) {
                changed += tape.charAt(i) != before.charAt(i) ? 1 : 0;
            }
            return changed;
        }

        int read(int register, int base) {
            at(register);
            return put(register, parsed(tape, base));
        }

        int write(int register, int base) {
            String text = written(at(register), base);
            append(text);
            return text.length();
        }

        int change(int base, int other) {
            BigInteger number = held(parsed(tape, base));
            change(written(number, other));
            return tape.length();
        }

        int hear(int register, int told, int heard) {
            return put(register, parsed(written(at(register), told), heard));
        }

        int set(int register, long number) {
            int before = at(register).signum();
            put(register, BigInteger.valueOf(number));
            return before;
        }

        int add(int register, int to) {
            return put(to, at(register).add(at(to)));
        }

        int multiply(int register, int by, int more) {
            return put(register, at(register).multiply(BigInteger.valueOf(by)).add(BigInteger.valueOf(more)));
        }

        int negate(int register) {
            return put(register, at(register).negate());
        }

        int step(int register, int base, boolean isMore) {
            BigInteger number = at(register);
            BigInteger size = number.abs().add(BigInteger.valueOf(isMore ? 1 : -1));
            if (size.abs().toString(base(base)).length() != digits(register, base).length() || size.signum() < 0) {
                throw new IllegalStateException();
            }
            put(register, number.signum() < 0 ? size.negate() : size);
            return digits(register, base).length();
        }

        int undo() {
            if (tapes.isEmpty()) {
                throw new NoSuchElementException();
            }
            tape = tapes.removeLast();
            registers = numbers.removeLast();
            return tapes.size();
        }

        int signAt(int index) {
            if (index < 0 || index >= tape.length()) {
                throw new IndexOutOfBoundsException();
            }
            return tape.charAt(index);
        }

        int leastBase() {
            for (int base = 2; base <= 36; base++) {
                if (isNumber(tape, base)) {
                    return base;
                }
            }
            return -1;
        }

        int digitAt(int register, int base, int index) {
            String digits = digits(register, base);
            if (index < 0 || index >= digits.length()) {
                throw new NoSuchElementException();
            }
            return Character.digit(digits.charAt(digits.length() - 1 - index), 36);
        }

        int sumOfDigits(int register, int base) {
            return digits(register, base).chars().map(sign -> Character.digit(sign, 36)).sum();
        }

        boolean isMirrored(int register, int base) {
            String digits = digits(register, base);
            return new StringBuilder(digits).reverse().toString().equals(digits);
        }

        double meanDigit(int register, int base) {
            return (double) sumOfDigits(register, base) / (double) digits(register, base).length();
        }

        float digitShare(int base) {
            base(base);
            long found = tape.chars().filter(sign -> Character.digit(sign, base) >= 0).count();
            return tape.isEmpty() ? 0.0f : (float) found / (float) tape.length();
        }
    }

    public static void main(String[] args) {
        for (int run = 0; run < RUNS && wrong < 20; run++) {
            goOneRun(run);
        }
        System.out.println(wrong == 0 ? RUNS + " runs are as the model's" : wrong + " answers are wrong");
        if (wrong != 0) {
            System.exit(1);
        }
    }

    private static void goOneRun(int run) {
        Random random = new Random(run);
        Radixtape x = new Radixtape();
        Model model = new Model();
        // A run has its own taste, so that some come to full tapes and to numbers at the limit.
        int favourite = random.nextInt(KINDS);
        for (int call = 0; call < CALLS && wrong < 20; call++) {
            int kind = random.nextInt(6) == 0 ? favourite : random.nextInt(KINDS);
            if (random.nextInt(30) != 0) {
                kind = growing(kind, run % 3, random);
            }
            String line = goOneCall(x, model, kind, random);
            String state = differs(x, model, call % 32 == 31);
            if (!line.isEmpty() || !state.isEmpty()) {
                wrong++;
                System.out.println("run " + run + ", call " + call + ": " + line + state);
            }
        }
    }

    /** Puts another kind in place of those that keep the tape short or the numbers small. */
    private static int growing(int kind, int taste, Random random) {
        if (taste == 1 && (kind == 1 || kind == 8 || kind == 15)) {
            return random.nextBoolean() ? 0 : 7;
        }
        if (taste == 2 && (kind == 1 || kind == 6 || kind == 10 || kind == 15)) {
            return random.nextInt(4) == 0 ? 8 : 12;
        }
        return kind;
    }

    private static String differs(Radixtape x, Model model, boolean isWhole) {
        if (x.length() != model.tape.length()) {
            return " length " + x.length() + ", due is " + model.tape.length();
        }
        for (int i = 0; i < x.length(); i++) {
            if (x.signAt(i) != model.tape.charAt(i)) {
                return " sign " + i + " differs";
            }
        }
        for (int register = 0; register < 4; register++) {
            BigInteger number = model.registers[register];
            if (x.signum(register) != number.signum() || x.low(register) != number.longValue()) {
                return " register " + register + " differs";
            }
            String digits = isWhole ? number.abs().toString(32) : "";
            for (int i = 0; i < digits.length(); i++) {
                if (x.digitAt(register, 32, i) != Character.digit(digits.charAt(digits.length() - 1 - i), 32)) {
                    return " register " + register + " differs at digit " + i;
                }
            }
        }
        return "";
    }

    private static int register(Random random) {
        return random.nextInt(16) == 0 ? random.nextInt(9) - 3 : random.nextInt(4);
    }

    private static int base(Random random) {
        return random.nextInt(16) == 0 ? random.nextInt(100) - 30 : 2 + random.nextInt(35);
    }

    private static int factor(Random random) {
        int bits = random.nextInt(8) == 0 ? 0 : random.nextInt(32);
        int factor = random.nextInt(40) == 0 ? Integer.MIN_VALUE : random.nextInt() >> bits;
        return factor == 0 ? 1 : factor;
    }

    private static int place(Random random, int length) {
        return random.nextInt(12) == 0 ? random.nextInt(2 * length + 6) - length - 3 : random.nextInt(length + 1);
    }

    private static long signs(Random random) {
        int taste = random.nextInt(5);
        String from = taste == 0 ? "01" : taste == 1 ? "0123456789" : taste == 2 ? "+-09azAZ" : "";
        long signs = 0;
        for (int i = random.nextInt(9); i > 0; i--) {
            int sign = from.isEmpty() ? 32 + random.nextInt(95) : from.charAt(random.nextInt(from.length()));
            signs = signs << 8 | (random.nextInt(12) == 0 ? 0 : sign);
        }
        return random.nextInt(30) == 0 ? random.nextLong() : signs;
    }

    private static String goOneCall(Radixtape x, Model m, int kind, Random random) {
        int a = register(random);
        int b = register(random);
        int base = base(random);
        int other = base(random);
        boolean flag = random.nextBoolean();
        int by = factor(random);
        int more = factor(random);
        int from = place(random, m.tape.length());
        int to = random.nextInt(4) == 0 ? place(random, m.tape.length()) : from + random.nextInt(4);
        long number = random.nextLong() >> random.nextInt(64);
        long signs = signs(random);
        int sign = random.nextInt(140);
        // A tape that is a number is rare by chance, so a reading likes its own least base.
        int tapeBase = flag && m.leastBase() > 0 ? m.leastBase() : base;
        switch (kind) {
            case 0: return same("type " + signs, () -> x.type(signs), () -> m.type(signs));
            case 1: return same("wipe", x::wipe, m::wipe);
            case 2: return same("reverse", x::reverse, m::reverse);
            case 3: return same("cut " + from + " " + to, () -> x.cut(from, to), () -> m.cut(from, to));
            case 4: return same("setSign " + from + " " + sign, () -> x.setSign(from, sign), () -> m.setSign(from, sign));
            case 5: return same("capitals " + flag, () -> x.capitals(flag), () -> m.capitals(flag));
            case 6: return same("read " + a + " " + tapeBase, () -> x.read(a, tapeBase), () -> m.read(a, tapeBase));
            case 7: return same("write " + a + " " + base, () -> x.write(a, base), () -> m.write(a, base));
            case 8: return same("change " + tapeBase + " " + other, () -> x.change(tapeBase, other), () -> m.change(tapeBase, other));
            case 9: return same("hear " + a + " " + base + " " + other, () -> x.hear(a, base, other), () -> m.hear(a, base, other));
            case 10: return same("set " + a + " " + number, () -> x.set(a, number), () -> m.set(a, number));
            case 11: return same("add " + a + " " + b, () -> x.add(a, b), () -> m.add(a, b));
            case 12: return same("multiply " + a + " " + by + " " + more, () -> x.multiply(a, by, more), () -> m.multiply(a, by, more));
            case 13: return same("negate " + a, () -> x.negate(a), () -> m.negate(a));
            case 14: return same("step " + a + " " + base + " " + flag, () -> x.step(a, base, flag), () -> m.step(a, base, flag));
            case 15: return same("undo", x::undo, m::undo);
            case 16: return same("length", x::length, () -> m.tape.length());
            case 17: return same("signAt " + from, () -> x.signAt(from), () -> m.signAt(from));
            case 18: return same("isNumber " + base, () -> x.isNumber(base), () -> Model.isNumber(m.tape, base));
            case 19: return same("leastBase", x::leastBase, m::leastBase);
            case 20: return same("compare " + a + " " + b, () -> x.compare(a, b), () -> m.at(a).compareTo(m.at(b)));
            case 21: return same("signum " + a, () -> x.signum(a), () -> m.at(a).signum());
            case 22: return same("digits " + a + " " + base, () -> x.digits(a, base), () -> m.digits(a, base).length());
            case 23: return same("digitAt " + a + " " + base + " " + from, () -> x.digitAt(a, base, from), () -> m.digitAt(a, base, from));
            case 24: return same("sumOfDigits " + a + " " + base, () -> x.sumOfDigits(a, base), () -> m.sumOfDigits(a, base));
            case 25: return same("isMirrored " + a + " " + base, () -> x.isMirrored(a, base), () -> m.isMirrored(a, base));
            case 26: return same("low " + a, () -> x.low(a), () -> m.at(a).longValue());
            case 27: return same("meanDigit " + a + " " + base, () -> x.meanDigit(a, base), () -> m.meanDigit(a, base));
            case 28: return same("digitShare " + base, () -> x.digitShare(base), () -> m.digitShare(base));
            default: return same("errors", x::errors, () -> 0);
        }
    }

    private static String same(String call, Answer got, Answer want) {
        Object given = outcome(got);
        Object due = outcome(want);
        return given.equals(due) ? "" : call + " answered " + given + ", due is " + due;
    }

    private static Object outcome(Answer answer) {
        try {
            return answer.give();
        } catch (RuntimeException e) {
            return "throws." + e.getClass().getSimpleName();
        }
    }
}
