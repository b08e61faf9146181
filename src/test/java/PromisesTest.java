import java.math.BigInteger;

/** Each promise of the document: ordinary inputs, the edges that it names, and wrong inputs. */
public final class PromisesTest extends Checks {
    public static void main(String[] args) {
        promise1NewObject();
        promise2Type();
        promise3Wipe();
        promise4Reverse();
        promise5Cut();
        promise6SetSign();
        promise7Capitals();
        promise8Read();
        promise9Write();
        promise10Change();
        promise11Hear();
        promise12Set();
        promise13Add();
        promise14Multiply();
        promise15Negate();
        promise16Step();
        promise17Undo();
        promise18Length();
        promise19SignAt();
        promise20IsNumber();
        promise21LeastBase();
        promise22Compare();
        promise23Signum();
        promise24Digits();
        promise25DigitAt();
        promise26SumOfDigits();
        promise27IsMirrored();
        promise28Low();
        promise29MeanDigit();
        promise30DigitShare();
        promise31Errors();
        end("all promises hold");
    }

    private static void promise1NewObject() {
        Radixtape x = new Radixtape();
        due("1 length", x.length(), 0);
        for (int register = 0; register < 4; register++) {
            due("1 signum", x.signum(register), 0);
            due("1 low", x.low(register), 0);
            due("1 digits", x.digits(register, 2), 1);
        }
        refused("1 undo", ELEMENT, x, x::undo);
        due("1 NONE", Radixtape.NONE, -1);
    }

    private static void promise2Type() {
        Radixtape x = new Radixtape();
        due("2 eight bytes", x.type(0x4142434445464748L), 8);
        dueText("2 highest first", x, "ABCDEFGH");
        due("2 zeros between", x.type(0x2000007E00000000L), 10);
        dueText("2 zeros between", x, "ABCDEFGH ~");
        due("2 nothing", x.type(0), 10);
        refused("2 byte 31", ARGUMENT, x, () -> x.type(31));
        refused("2 byte 127", ARGUMENT, x, () -> x.type(127));
        refused("2 byte 255", ARGUMENT, x, () -> x.type(-1));
        refused("2 byte 128 is highest", ARGUMENT, x, () -> x.type(0x8041414141414141L));
        refused("2 byte 1 between", ARGUMENT, x, () -> x.type(0x41000100000041L));

        Radixtape full = tape("7".repeat(1195));
        due("2 to the brim", full.type(0x3132333435L), 1200);
        refused("2 too long", STATE, full, () -> full.type(65));
        refused("2 a bad byte is told first", ARGUMENT, full, () -> full.type(0x4101));
        due("2 nothing behind a full tape", full.type(0), 1200);
        Radixtape almost = tape("7".repeat(1193));
        refused("2 eight behind 1193", STATE, almost, () -> almost.type(0x4141414141414141L));
        due("2 seven behind 1193", almost.type(0x41414141414141L), 1200);
    }

    private static void promise3Wipe() {
        Radixtape x = tape("hello");
        due("3 wipe", x.wipe(), 5);
        due("3 empty", x.length(), 0);
        due("3 wipe again", x.wipe(), 0);
        due("3 register stays", registerAfterWipe(), 7);
    }

    private static long registerAfterWipe() {
        Radixtape x = tape("7");
        x.read(1, 10);
        x.wipe();
        return x.low(1);
    }

    private static void promise4Reverse() {
        Radixtape x = new Radixtape();
        due("4 empty", x.reverse(), 0);
        x.type('a');
        due("4 one", x.reverse(), 1);
        dueText("4 one", x, "a");
        typeText(x, "bcd");
        due("4 even", x.reverse(), 4);
        dueText("4 even", x, "dcba");
        x.type('!');
        due("4 odd", x.reverse(), 5);
        dueText("4 odd", x, "!abcd");
        Radixtape full = tape("1" + "0".repeat(1199));
        due("4 full", full.reverse(), 1200);
        dueText("4 full", full, "0".repeat(1199) + "1");
    }

    private static void promise5Cut() {
        Radixtape x = tape("abcdefg");
        refused("5 from below 0", INDEX, x, () -> x.cut(-1, 3));
        refused("5 to above", INDEX, x, () -> x.cut(0, 8));
        refused("5 from above to", INDEX, x, () -> x.cut(4, 3));
        refused("5 far off", INDEX, x, () -> x.cut(Integer.MIN_VALUE, Integer.MAX_VALUE));
        refused("5 both behind", INDEX, x, () -> x.cut(8, 8));
        due("5 none", x.cut(3, 3), 7);
        due("5 none at the end", x.cut(7, 7), 7);
        dueText("5 none", x, "abcdefg");
        due("5 inside", x.cut(2, 4), 5);
        dueText("5 inside", x, "abefg");
        due("5 first", x.cut(0, 1), 4);
        dueText("5 first", x, "befg");
        due("5 last", x.cut(3, 4), 3);
        dueText("5 last", x, "bef");
        due("5 all", x.cut(0, 3), 0);
        due("5 none of none", x.cut(0, 0), 0);
    }

    private static void promise6SetSign() {
        Radixtape x = tape("abc");
        due("6 middle", x.setSign(1, 'X'), 'b');
        dueText("6 middle", x, "aXc");
        due("6 least", x.setSign(0, 32), 'a');
        due("6 greatest", x.setSign(2, 126), 'c');
        dueText("6 edges", x, " X~");
        due("6 the same", x.setSign(1, 'X'), 'X');
        refused("6 index -1", INDEX, x, () -> x.setSign(-1, 'a'));
        refused("6 index 3", INDEX, x, () -> x.setSign(3, 'a'));
        refused("6 sign 31", ARGUMENT, x, () -> x.setSign(0, 31));
        refused("6 sign 127", ARGUMENT, x, () -> x.setSign(0, 127));
        refused("6 sign 0", ARGUMENT, x, () -> x.setSign(0, 0));
        refused("6 sign 65 + 256", ARGUMENT, x, () -> x.setSign(0, 321));
        refused("6 the index is told first", INDEX, x, () -> x.setSign(3, 0));
        Radixtape none = new Radixtape();
        refused("6 empty", INDEX, none, () -> none.setSign(0, 'a'));
    }

    private static void promise7Capitals() {
        Radixtape x = tape("aZz`{@[19-~");
        due("7 capitals", x.capitals(true), 2);
        dueText("7 capitals", x, "AZZ`{@[19-~");
        due("7 once more", x.capitals(true), 0);
        due("7 small", x.capitals(false), 3);
        dueText("7 small", x, "azz`{@[19-~");
        due("7 once more", x.capitals(false), 0);
        due("7 empty", new Radixtape().capitals(true), 0);
    }

    private static void promise8Read() {
        readsAs("+7f", 16, BigInteger.valueOf(127));
        readsAs("-7F", 16, BigInteger.valueOf(-127));
        readsAs("zZ", 36, BigInteger.valueOf(1295));
        readsAs("-0", 2, BigInteger.ZERO);
        readsAs("+000", 10, BigInteger.ZERO);
        readsAs("0".repeat(1199) + "1", 2, BigInteger.ONE);
        readsAs("-" + "0".repeat(399) + "1".repeat(800), 2, GREATEST.negate());
        for (int base = 2; base <= 36; base++) {
            readsAs(GREATEST.toString(base), base, GREATEST);
            readsAs("-" + GREATEST.toString(base).toUpperCase(), base, GREATEST.negate());
            notRead(LIMIT.toString(base), base, STATE);
            notRead("-" + LIMIT.toString(base), base, STATE);
        }
        notRead("z".repeat(1200), 36, STATE);
        notRead("z".repeat(1199) + "!", 36, FORMAT);
        notRead("1" + "0".repeat(1199), 2, STATE);
        notRead("", 10, FORMAT);
        notRead("+", 10, FORMAT);
        notRead("-", 36, FORMAT);
        notRead("+-1", 10, FORMAT);
        notRead("1-", 10, FORMAT);
        notRead(" 1", 10, FORMAT);
        notRead("12", 2, FORMAT);
        notRead("a", 10, FORMAT);
        notRead("A", 10, FORMAT);
        notRead("z", 35, FORMAT);
        for (String noDigit : new String[] {"/", ":", "@", "[", "`", "{", "1.0"}) {
            notRead(noDigit, 36, FORMAT);
        }
        notRead("1", 1, FORMAT);
        notRead("0", 1, FORMAT);
        notRead("1", 37, FORMAT);
        notRead("1", 0, FORMAT);
        notRead("1", -10, FORMAT);
        Radixtape x = tape("1");
        refused("8 register 4", INDEX, x, () -> x.read(4, 10));
        refused("8 register -1", INDEX, x, () -> x.read(-1, 10));
        refused("8 the register is told first", INDEX, x, () -> x.read(4, 99));
    }

    private static void readsAs(String text, int base, BigInteger number) {
        Radixtape x = tape(text);
        due("8 read " + text + " in " + base, x.read(2, base), number.signum());
        dueNumber("8 read " + text + " in " + base, x, 2, number);
        dueText("8 the tape stays", x, text);
        due("8 no other register", x.low(1), 0);
    }

    private static void notRead(String text, int base, Class<?> want) {
        Radixtape x = tape(text);
        x.set(2, 99);
        refused("8 read " + text + " in " + base, want, x, () -> x.read(2, base));
    }

    private static void promise9Write() {
        for (int base = 2; base <= 36; base++) {
            writesAs(BigInteger.ZERO, base, "0");
            writesAs(BigInteger.valueOf(-base), base, "-10");
            writesAs(GREATEST.negate(), base, GREATEST.negate().toString(base));
            BigInteger sixthPower = BigInteger.valueOf(base).pow(6);
            writesAs(sixthPower, base, "1000000");
            writesAs(sixthPower.subtract(BigInteger.ONE), base, signOf(base - 1).repeat(6));
        }
        for (int base : new int[] {Integer.MIN_VALUE, -2, 0, 1, 37, 100, Integer.MAX_VALUE}) {
            writesAs(BigInteger.valueOf(-255), base, "-255");
        }
        writesAs(BigInteger.valueOf(0xABCDEF), 16, "abcdef");
        Radixtape x = tape("!".repeat(1196));
        x.set(0, -999);
        due("9 to the brim", x.write(0, 10), 4);
        dueText("9 behind the tape", x, "!".repeat(1196) + "-999");
        refused("9 too long", STATE, x, () -> x.write(1, 10));
        refused("9 register 4", INDEX, x, () -> x.write(4, 10));
        refused("9 register -1", INDEX, x, () -> x.write(-1, 10));
    }

    private static String signOf(int digit) {
        return Integer.toString(digit, 36);
    }

    private static void writesAs(BigInteger number, int base, String text) {
        Radixtape x = withRegister(3, number);
        due("9 write in " + base, x.write(3, base), text.length());
        dueText("9 write in " + base, x, text);
        dueNumber("9 the register stays", x, 3, number);
    }

    private static void promise10Change() {
        Radixtape x = tape("+00FF");
        due("10 change", x.change(16, 2), 8);
        dueText("10 change", x, "11111111");
        due("10 other base is none", x.change(2, 0), 3);
        dueText("10 as in base 10", x, "255");
        due("10 capital", tapeChanged("-ZZ", 36, 36, "-zz"), 3);
        due("10 zero", tapeChanged("-000", 7, 3, "0"), 1);
        String greatest = GREATEST.negate().toString(36);
        due("10 greatest", tapeChanged(greatest, 36, 2, "-" + "1".repeat(800)), 801);
        refused("10 base 1", FORMAT, x, () -> x.change(1, 10));
        refused("10 base 37", FORMAT, x, () -> x.change(37, 10));
        refused("10 no number", FORMAT, x, () -> x.change(5, 10));
        Radixtape none = new Radixtape();
        refused("10 empty", FORMAT, none, () -> none.change(10, 10));
        Radixtape large = tape(LIMIT.toString(10));
        refused("10 too large", STATE, large, () -> large.change(10, 36));
        refused("10 too large for the same base too", STATE, large, () -> large.change(10, 10));
        refused("10 the form is told first", FORMAT, large, () -> large.change(8, 36));
    }

    private static long tapeChanged(String text, int base, int other, String want) {
        Radixtape x = tape(text);
        int answer = x.change(base, other);
        dueText("10 change " + text, x, want);
        due("10 no register", x.signum(0), 0);
        return answer;
    }

    private static void promise11Hear() {
        Radixtape x = withRegister(1, BigInteger.valueOf(-255));
        typeText(x, "12");
        due("11 hear", x.hear(1, 16, 36), -1);
        due("11 hear", x.low(1), -(15 * 36 + 15));
        dueText("11 the tape stays", x, "12");
        x.set(1, 8);
        due("11 told in none", x.hear(1, 37, 16), 1);
        due("11 told in none", x.low(1), 8);
        due("11 told in 2", x.hear(1, 2, 3), 1);
        due("11 told in 2", x.low(1), 27);
        due("11 zero", x.hear(0, 2, 36), 0);
        x.set(2, 35);
        refused("11 no digit", FORMAT, x, () -> x.hear(2, 36, 35));
        refused("11 heard 1", FORMAT, x, () -> x.hear(2, 10, 1));
        refused("11 heard 37", FORMAT, x, () -> x.hear(2, 10, 37));
        refused("11 register 4", INDEX, x, () -> x.hear(4, 10, 1));
        refused("11 register -1", INDEX, x, () -> x.hear(-1, 10, 10));
        Radixtape greatest = withRegister(0, GREATEST);
        refused("11 too large", STATE, greatest, () -> greatest.hear(0, 2, 3));
        refused("11 the form is told first", FORMAT, greatest, () -> greatest.hear(0, 10, 9));
        due("11 the same base", greatest.hear(0, 36, 36), 1);
        dueNumber("11 the same base", greatest, 0, GREATEST);
    }

    private static void promise12Set() {
        Radixtape x = new Radixtape();
        for (long number : new long[] {5, -5, 0, Long.MAX_VALUE, Long.MIN_VALUE, 1L << 32, -(1L << 32) + 1}) {
            int before = x.signum(3);
            due("12 set " + number, x.set(3, number), before);
            dueNumber("12 set " + number, x, 3, BigInteger.valueOf(number));
        }
        due("12 over a large one", overLarge(), 1);
        refused("12 register 4", INDEX, x, () -> x.set(4, 1));
        refused("12 register -1", INDEX, x, () -> x.set(-1, 1));
        refused("12 register far off", INDEX, x, () -> x.set(Integer.MIN_VALUE, 1));
    }

    private static long overLarge() {
        Radixtape x = withRegister(0, GREATEST);
        int answer = x.set(0, -1);
        dueNumber("12 over a large one", x, 0, BigInteger.valueOf(-1));
        return answer;
    }

    private static void promise13Add() {
        BigInteger[] numbers = {
            BigInteger.ZERO, BigInteger.ONE, BigInteger.valueOf(-1), BigInteger.valueOf(0xFFFFFFFFL),
            BigInteger.ONE.shiftLeft(96).subtract(BigInteger.ONE), BigInteger.ONE.shiftLeft(96).negate(),
            BigInteger.ONE.shiftLeft(799), GREATEST, GREATEST.negate()};
        for (BigInteger one : numbers) {
            for (BigInteger other : numbers) {
                Radixtape x = withRegister(0, one);
                putRegister(x, 1, other);
                BigInteger sum = one.add(other);
                if (sum.abs().compareTo(LIMIT) >= 0) {
                    refused("13 too large", STATE, x, () -> x.add(0, 1));
                } else {
                    due("13 " + one + " + " + other, x.add(0, 1), sum.signum());
                    dueNumber("13 " + one + " + " + other, x, 1, sum);
                    dueNumber("13 the added one stays", x, 0, one);
                }
            }
        }
        Radixtape x = withRegister(2, BigInteger.valueOf(-21));
        due("13 to itself", x.add(2, 2), -1);
        due("13 to itself", x.low(2), -42);
        refused("13 register 4", INDEX, x, () -> x.add(4, 0));
        refused("13 to 4", INDEX, x, () -> x.add(0, 4));
        refused("13 to -1", INDEX, x, () -> x.add(0, -1));
        Radixtape half = withRegister(0, BigInteger.ONE.shiftLeft(799));
        refused("13 to itself, too large", STATE, half, () -> half.add(0, 0));
    }

    private static void promise14Multiply() {
        int[] factors = {0, 1, -1, 2, 36, Integer.MAX_VALUE, Integer.MIN_VALUE};
        BigInteger[] numbers = {
            BigInteger.ZERO, BigInteger.ONE, BigInteger.valueOf(-7), BigInteger.ONE.shiftLeft(798),
            BigInteger.ONE.shiftLeft(799), BigInteger.ONE.shiftLeft(769).negate(), GREATEST, GREATEST.negate()};
        for (BigInteger number : numbers) {
            for (int by : factors) {
                for (int more : factors) {
                    multiplies(number, by, more);
                }
            }
        }
        Radixtape x = new Radixtape();
        refused("14 register 4", INDEX, x, () -> x.multiply(4, 1, 1));
        refused("14 register -1", INDEX, x, () -> x.multiply(-1, 1, 1));
    }

    private static void multiplies(BigInteger number, int by, int more) {
        String what = "14 " + number + " * " + by + " + " + more;
        Radixtape x = withRegister(1, number);
        BigInteger want = number.multiply(BigInteger.valueOf(by)).add(BigInteger.valueOf(more));
        if (want.abs().compareTo(LIMIT) >= 0) {
            refused(what, STATE, x, () -> x.multiply(1, by, more));
        } else {
            due(what, x.multiply(1, by, more), want.signum());
            dueNumber(what, x, 1, want);
        }
    }

    private static void promise15Negate() {
        Radixtape x = withRegister(0, GREATEST);
        due("15 negate", x.negate(0), -1);
        dueNumber("15 negate", x, 0, GREATEST.negate());
        due("15 again", x.negate(0), 1);
        dueNumber("15 again", x, 0, GREATEST);
        due("15 zero", x.negate(1), 0);
        refused("15 register 4", INDEX, x, () -> x.negate(4));
        refused("15 register -1", INDEX, x, () -> x.negate(-1));
    }

    private static void promise16Step() {
        steps(BigInteger.ZERO, 2, true, BigInteger.ONE);
        steps(BigInteger.ONE, 2, false, BigInteger.ZERO);
        steps(BigInteger.valueOf(-1), 36, false, BigInteger.ZERO);
        steps(BigInteger.valueOf(-1), 10, true, BigInteger.valueOf(-2));
        steps(BigInteger.valueOf(-99), 10, false, BigInteger.valueOf(-98));
        steps(BigInteger.valueOf(34), 36, true, BigInteger.valueOf(35));
        steps(BigInteger.valueOf(0xFFFFFFFFL), 10, true, BigInteger.ONE.shiftLeft(32));
        steps(GREATEST, 2, false, GREATEST.subtract(BigInteger.ONE));
        steps(GREATEST.subtract(BigInteger.ONE).negate(), 2, true, GREATEST.negate());
        doesNotStep(BigInteger.ZERO, 10, false);
        doesNotStep(BigInteger.ONE, 2, true);
        doesNotStep(BigInteger.valueOf(9), 10, true);
        doesNotStep(BigInteger.valueOf(-9), 10, true);
        doesNotStep(BigInteger.TEN, 10, false);
        doesNotStep(BigInteger.valueOf(-36), 36, false);
        doesNotStep(GREATEST, 10, true);
        doesNotStep(GREATEST.negate(), 2, true);
        doesNotStep(BigInteger.ONE.shiftLeft(799), 2, false);
        Radixtape x = withRegister(0, BigInteger.ONE);
        refused("16 register 4", INDEX, x, () -> x.step(4, 1, true));
        refused("16 register -1", INDEX, x, () -> x.step(-1, 10, true));
        refused("16 base 1", ARGUMENT, x, () -> x.step(0, 1, true));
        refused("16 base 37", ARGUMENT, x, () -> x.step(0, 37, true));
        refused("16 the base is told first", ARGUMENT, x, () -> x.step(1, 0, false));
    }

    private static void steps(BigInteger number, int base, boolean isMore, BigInteger want) {
        Radixtape x = withRegister(2, number);
        due("16 step of " + number, x.step(2, base, isMore), want.abs().toString(base).length());
        dueNumber("16 step of " + number, x, 2, want);
    }

    private static void doesNotStep(BigInteger number, int base, boolean isMore) {
        Radixtape x = withRegister(2, number);
        refused("16 step of " + number + " in " + base, STATE, x, () -> x.step(2, base, isMore));
    }

    private static void promise17Undo() {
        Radixtape x = new Radixtape();
        refused("17 nothing", ELEMENT, x, x::undo);
        for (int i = 1; i <= 25; i++) {
            x.set(0, i);
        }
        for (int i = 1; i <= 20; i++) {
            due("17 how many more", x.undo(), 20 - i);
            due("17 the number ahead", x.low(0), 25 - i);
        }
        refused("17 no more than 20", ELEMENT, x, x::undo);
        due("17 the fifth stays", x.low(0), 5);

        undoesEachKind();

        Radixtape y = tape("12");
        y.wipe();
        y.wipe();
        due("17 a change of nothing counts", y.undo(), 2);
        due("17 a change of nothing counts", y.length(), 0);
        due("17 the tape", y.undo(), 1);
        dueText("17 the tape", y, "12");
        y.read(3, 3);
        y.negate(3);
        refused("17 a refused call is no change", STATE, y, () -> y.step(0, 2, false));
        due("17 a refused call is no change", y.undo(), 2);
        due("17 the register", y.low(3), 5);
        due("17 the register", y.undo(), 1);
        due("17 the register", y.low(3), 0);
    }

    private static void undoesEachKind() {
        Radixtape x = tape("1a0");
        x.set(0, -77);
        undoes("type", x, () -> x.type('!'));
        undoes("type of nothing", x, () -> x.type(0));
        undoes("wipe", x, x::wipe);
        undoes("reverse", x, x::reverse);
        undoes("cut", x, () -> x.cut(0, 2));
        undoes("setSign", x, () -> x.setSign(2, '9'));
        undoes("capitals", x, () -> x.capitals(true));
        undoes("capitals of none", x, () -> x.capitals(false));
        undoes("read", x, () -> x.read(0, 16));
        undoes("write", x, () -> x.write(0, 2));
        undoes("change", x, () -> x.change(16, 2));
        undoes("hear", x, () -> x.hear(0, 10, 8));
        undoes("set", x, () -> x.set(0, 1));
        undoes("add", x, () -> x.add(0, 3));
        undoes("multiply", x, () -> x.multiply(0, 5, 5));
        undoes("negate", x, () -> x.negate(0));
        undoes("step", x, () -> x.step(0, 10, true));
    }

    private static void undoes(String kind, Radixtape x, Runnable change) {
        String before = stateOf(x);
        change.run();
        due("17 how many more behind " + kind, x.undo(), 2);
        dueString("17 " + kind + " is undone", stateOf(x), before);
    }

    private static void promise18Length() {
        due("18 empty", new Radixtape().length(), 0);
        due("18 some", tape("abc").length(), 3);
        due("18 full", tape("a".repeat(1200)).length(), 1200);
    }

    private static void promise19SignAt() {
        Radixtape x = tape(" Az~");
        due("19 first", x.signAt(0), 32);
        due("19 middle", x.signAt(1), 65);
        due("19 last", x.signAt(3), 126);
        refused("19 index -1", INDEX, x, () -> x.signAt(-1));
        refused("19 index 4", INDEX, x, () -> x.signAt(4));
        refused("19 far off", INDEX, x, () -> x.signAt(Integer.MAX_VALUE));
        Radixtape none = new Radixtape();
        refused("19 empty", INDEX, none, () -> none.signAt(0));
        x.wipe();
        refused("19 behind a wiped tape", INDEX, x, () -> x.signAt(0));
    }

    private static void promise20IsNumber() {
        for (int base = -2; base <= 40; base++) {
            boolean isBase = base >= 2 && base <= 36;
            due("20 0", tape("-0").isNumber(base) ? 1 : 0, isBase ? 1 : 0);
            due("20 1", tape("+1").isNumber(base) ? 1 : 0, isBase ? 1 : 0);
            due("20 G", tape("-G").isNumber(base) ? 1 : 0, isBase && base >= 17 ? 1 : 0);
            due("20 empty", new Radixtape().isNumber(base) ? 1 : 0, 0);
            due("20 minus", tape("-").isNumber(base) ? 1 : 0, 0);
            due("20 too large", tape("z".repeat(1200)).isNumber(base) ? 1 : 0, base == 36 ? 1 : 0);
        }
        for (String text : new String[] {"++1", "1+", "1 ", " 1", "-+1", "_"}) {
            due("20 " + text, tape(text).isNumber(36) ? 1 : 0, 0);
        }
    }

    private static void promise21LeastBase() {
        for (int digit = 0; digit < 36; digit++) {
            String sign = Integer.toString(digit, 36);
            due("21 " + sign, tape(sign).leastBase(), Math.max(2, digit + 1));
            due("21 -0" + sign, tape("-0" + sign.toUpperCase() + "0").leastBase(), Math.max(2, digit + 1));
        }
        for (String text : new String[] {"", "+", "-", "1-", "a!", " 1"}) {
            due("21 " + text, tape(text).leastBase(), Radixtape.NONE);
        }
        due("21 too large", tape("1".repeat(1200)).leastBase(), 2);
    }

    private static void promise22Compare() {
        BigInteger[] numbers = {
            BigInteger.ZERO, BigInteger.ONE, BigInteger.valueOf(-1), BigInteger.TWO, BigInteger.valueOf(-2),
            BigInteger.ONE.shiftLeft(31), BigInteger.ONE.shiftLeft(64), BigInteger.ONE.shiftLeft(64).negate(),
            GREATEST, GREATEST.negate(), GREATEST.subtract(BigInteger.ONE)};
        for (BigInteger one : numbers) {
            for (BigInteger other : numbers) {
                Radixtape x = withRegister(0, one);
                putRegister(x, 3, other);
                due("22 " + one + " and " + other, x.compare(0, 3), one.compareTo(other));
            }
        }
        Radixtape x = new Radixtape();
        due("22 itself", x.compare(2, 2), 0);
        refused("22 register 4", INDEX, x, () -> x.compare(4, 0));
        refused("22 other 4", INDEX, x, () -> x.compare(0, 4));
        refused("22 other -1", INDEX, x, () -> x.compare(0, -1));
    }

    private static void promise23Signum() {
        due("23 above", withRegister(1, GREATEST).signum(1), 1);
        due("23 below", withRegister(1, GREATEST.negate()).signum(1), -1);
        due("23 zero", withRegister(1, BigInteger.ZERO).signum(1), 0);
        Radixtape x = new Radixtape();
        refused("23 register 4", INDEX, x, () -> x.signum(4));
        refused("23 register -1", INDEX, x, () -> x.signum(-1));
    }

    private static void promise24Digits() {
        Radixtape x = new Radixtape();
        for (int base = 2; base <= 36; base++) {
            due("24 zero", x.digits(0, base), 1);
            for (int power = 1; power < 150; power += 7) {
                BigInteger number = BigInteger.valueOf(base).pow(power);
                Radixtape y = withRegister(0, number);
                due("24 a power", y.digits(0, base), power + 1);
                y.multiply(0, -1, 1);
                due("24 one less", y.digits(0, base), power);
            }
            due("24 the greatest", withRegister(0, GREATEST).digits(0, base), GREATEST.toString(base).length());
        }
        refusesRegisterAndBase("24", x::digits);
    }

    private static void promise25DigitAt() {
        BigInteger number = new BigInteger("-1zyxwvutsrqponmlkjihgfedcba9876543210", 36);
        for (int base = 2; base <= 36; base++) {
            String text = number.abs().toString(base);
            Radixtape x = withRegister(2, number);
            for (int i = 0; i < text.length(); i++) {
                due("25 digit", x.digitAt(2, base, i), Character.digit(text.charAt(text.length() - 1 - i), 36));
            }
            int known = base;
            refused("25 behind", ELEMENT, x, () -> x.digitAt(2, known, text.length()));
            refused("25 below 0", ELEMENT, x, () -> x.digitAt(2, known, -1));
        }
        Radixtape x = new Radixtape();
        due("25 zero", x.digitAt(0, 10, 0), 0);
        refused("25 zero has one", ELEMENT, x, () -> x.digitAt(0, 10, 1));
        refused("25 far off", ELEMENT, x, () -> x.digitAt(0, 10, Integer.MAX_VALUE));
        refusesRegisterAndBase("25", (register, base) -> x.digitAt(register, base, 5));
    }

    private static void promise26SumOfDigits() {
        Radixtape x = new Radixtape();
        due("26 zero", x.sumOfDigits(0, 36), 0);
        x.set(0, -987);
        due("26 below 0", x.sumOfDigits(0, 10), 24);
        due("26 the greatest", withRegister(1, GREATEST).sumOfDigits(1, 2), 800);
        due("26 the greatest", withRegister(1, GREATEST).sumOfDigits(1, 16), 3000);
        refusesRegisterAndBase("26", x::sumOfDigits);
    }

    private static void promise27IsMirrored() {
        String[] texts = {"0", "7", "11", "10", "121", "122", "1221", "1231", "100000000001", "-454", "-455"};
        for (String text : texts) {
            String digits = text.replace("-", "");
            boolean want = new StringBuilder(digits).reverse().toString().equals(digits);
            Radixtape x = withRegister(0, new BigInteger(text));
            due("27 " + text, x.isMirrored(0, 10) ? 1 : 0, want ? 1 : 0);
        }
        due("27 the greatest", withRegister(0, GREATEST).isMirrored(0, 2) ? 1 : 0, 1);
        due("27 one less", withRegister(0, GREATEST.subtract(BigInteger.ONE)).isMirrored(0, 2) ? 1 : 0, 0);
        refusesRegisterAndBase("27", new Radixtape()::isMirrored);
    }

    private static void promise28Low() {
        BigInteger[] numbers = {
            BigInteger.ZERO, BigInteger.ONE, BigInteger.valueOf(-1), BigInteger.valueOf(Long.MIN_VALUE),
            BigInteger.ONE.shiftLeft(63), BigInteger.ONE.shiftLeft(64), BigInteger.ONE.shiftLeft(64).negate(),
            BigInteger.ONE.shiftLeft(100).add(BigInteger.valueOf(5)).negate(), GREATEST, GREATEST.negate()};
        for (BigInteger number : numbers) {
            due("28 low of " + number, withRegister(3, number).low(3), number.longValue());
        }
        Radixtape x = new Radixtape();
        refused("28 register 4", INDEX, x, () -> x.low(4));
        refused("28 register -1", INDEX, x, () -> x.low(-1));
    }

    private static void promise29MeanDigit() {
        Radixtape x = new Radixtape();
        dueReal("29 zero", x.meanDigit(0, 10), 0.0);
        x.set(0, -100);
        dueReal("29 a third", x.meanDigit(0, 10), 1.0 / 3.0);
        x.set(0, 255);
        dueReal("29 hexadecimal", x.meanDigit(0, 16), 15.0);
        x.set(0, 1000011);
        dueReal("29 three of seven", x.meanDigit(0, 10), 3.0 / 7.0);
        refusesRegisterAndBase("29", x::meanDigit);
    }

    private static void promise30DigitShare() {
        Radixtape x = new Radixtape();
        dueReal("30 empty", x.digitShare(10), 0.0f);
        refused("30 empty, base 1", ARGUMENT, x, () -> x.digitShare(1));
        typeText(x, "-1aZ");
        dueReal("30 base 2", x.digitShare(2), 0.25f);
        dueReal("30 base 10", x.digitShare(10), 0.25f);
        dueReal("30 base 11", x.digitShare(11), 0.5f);
        dueReal("30 base 35", x.digitShare(35), 0.5f);
        dueReal("30 base 36", x.digitShare(36), 0.75f);
        typeText(x, "+ ~");
        dueReal("30 of seven", x.digitShare(36), 3.0f / 7.0f);
        dueReal("30 all of them", tape("1f7").digitShare(16), 1.0f);
        dueReal("30 the ends", tape("1!f").digitShare(16), 2.0f / 3.0f);
        refused("30 base 1", ARGUMENT, x, () -> x.digitShare(1));
        refused("30 base 37", ARGUMENT, x, () -> x.digitShare(37));
        refused("30 base -1", ARGUMENT, x, () -> x.digitShare(-1));
    }

    private static void promise31Errors() {
        String[] texts = {"", "-", "+0", "-0", "zZ", "12x!", "z".repeat(1200), "-1", "00000", LIMIT.toString(10)};
        BigInteger[] numbers = {
            BigInteger.ZERO, BigInteger.ONE, BigInteger.valueOf(-1), BigInteger.valueOf(35),
            BigInteger.ONE.shiftLeft(799), GREATEST, GREATEST.negate(), BigInteger.TEN.pow(200)};
        for (String text : texts) {
            for (int i = 0; i < numbers.length; i += 4) {
                Radixtape x = new Radixtape();
                for (int register = 0; register < 4; register++) {
                    putRegister(x, register, numbers[i + register]);
                }
                typeText(x, text);
                String before = stateOf(x);
                due("31 errors", x.errors(), 0);
                dueString("31 nothing changes", stateOf(x), before);
                dueString("31 the last change is the typing", text.isEmpty() ? "" : undone(x), "");
            }
        }
    }

    /** The tape is typed in parts of eight signs, so the last part alone is gone by one undoing. */
    private static String undone(Radixtape x) {
        int before = x.length();
        x.undo();
        int part = before % 8 == 0 ? 8 : before % 8;
        return x.length() == before - part ? "" : "length " + x.length() + " after " + before;
    }

    private interface Asked {
        void ask(int register, int base);
    }

    private static void refusesRegisterAndBase(String what, Asked question) {
        Radixtape x = new Radixtape();
        refused(what + " register 4", INDEX, x, () -> question.ask(4, 10));
        refused(what + " register -1", INDEX, x, () -> question.ask(-1, 10));
        refused(what + " the register is told first", INDEX, x, () -> question.ask(4, 1));
        for (int base : new int[] {Integer.MIN_VALUE, -10, 0, 1, 37, Integer.MAX_VALUE}) {
            refused(what + " base " + base, ARGUMENT, x, () -> question.ask(0, base));
        }
    }
}
