import java.math.BigInteger;
import java.util.ArrayList;
import java.util.List;

/** Each sentence of the document's promises 17 to 31 (undoing, and the questions) has a test of its own here. */
public final class QuestionsTest extends Sentences {
    private static final String NO_BASE = "Throws `IllegalArgumentException` if base is out of range";

    /** A question about a register in a base. */
    private interface Asked {
        void ask(Radixtape x, int register, int base);
    }

    public static void main(String[] args) {
        promises17To19();
        promises20To23();
        promises24To26();
        promises27To29();
        promises30And31();
        endWith(args, promises(17, 31));
    }

    private static void promises17To19() {
        sentence(17, "Undoes the latest change.", QuestionsTest::undone);
        sentence(17, "Returns how many more can be undone.", QuestionsTest::undoneHowManyMore);
        sentence(17, "Throws `NoSuchElementException` if there is none", QuestionsTest::undoneNone);

        sentence(18, "Returns the length of the tape.", QuestionsTest::lengthOfTheTape);
        sentence(18, "Returns the number of its signs.", QuestionsTest::lengthBehindEachChange);

        sentence(19, "Returns a sign.", QuestionsTest::signAt);
        sentence(19, "Returns its code.", QuestionsTest::signCode);
        sentence(19, "Throws `IndexOutOfBoundsException` if there is no such sign", QuestionsTest::signNowhere);
    }

    private static void promises20To23() {
        sentence(20, "Tells whether the tape is a number in a base.", QuestionsTest::isNumber);
        sentence(20, "Returns whether base is 2 to 36 and it is.", QuestionsTest::isNumberInBase2To36);

        sentence(21, "Returns the least base in which the tape is a number.", QuestionsTest::leastBase);
        sentence(21, "Returns the base; NONE if it is none in any.", QuestionsTest::leastBaseNone);

        sentence(22, "Compares two registers.", QuestionsTest::compared);
        sentence(22, "Returns -1 if the number of register is less, 0 if both are the same, 1 if it is greater.",
                QuestionsTest::comparedAtTheEdges);
        sentence(22, NO_REGISTER + ", of either", QuestionsTest::compareNoRegister);

        sentence(23, "Returns the signum of a register.", QuestionsTest::signum);
        sentence(23, "Returns -1, 0 or 1.", QuestionsTest::signumAtTheEdges);
        sentence(23, NO_REGISTER, () -> refusesRegisters("signum", (x, register, base) -> x.signum(register)));
    }

    private static void promises24To26() {
        sentence(24, "Returns the count of digits of a register.", QuestionsTest::digits);
        sentence(24, "Returns the count; 1 for the number 0.", QuestionsTest::digitsOf0);
        sentence(24, NO_REGISTER, () -> refusesRegisters("digits", Radixtape::digits));
        sentence(24, NO_BASE, () -> refusesBases("digits", Radixtape::digits));

        sentence(25, "Returns a digit of a register.", QuestionsTest::digitAt);
        sentence(25, "- `index`: the number of the digit, 0 for the last one", QuestionsTest::digitAt0IsTheLast);
        sentence(25, "Returns its value, 0 to base - 1.", QuestionsTest::digitAtOfEachValue);
        sentence(25, NO_REGISTER, QuestionsTest::digitAtNoRegister);
        sentence(25, NO_BASE, QuestionsTest::digitAtNoBase);
        sentence(25, "Throws `NoSuchElementException` if there is no such digit", QuestionsTest::digitAtNoDigit);

        sentence(26, "Returns the sum of the digits of a register.", QuestionsTest::sumOfDigits);
        sentence(26, "Returns the sum of their values.", QuestionsTest::sumOfDigitsAtTheEdges);
        sentence(26, NO_REGISTER, () -> refusesRegisters("sumOfDigits", Radixtape::sumOfDigits));
        sentence(26, NO_BASE, () -> refusesBases("sumOfDigits", Radixtape::sumOfDigits));
    }

    private static void promises27To29() {
        sentence(27, "Tells whether the digits of a register are the same from both ends.", QuestionsTest::isMirrored);
        sentence(27, "Returns whether they are.", QuestionsTest::isMirroredAtTheEdges);
        sentence(27, NO_REGISTER, () -> refusesRegisters("isMirrored", Radixtape::isMirrored));
        sentence(27, NO_BASE, () -> refusesBases("isMirrored", Radixtape::isMirrored));

        sentence(28, "Returns the lowest bits of a register.", QuestionsTest::low);
        sentence(28, "Returns the long whose 64 bits are the lowest ones of the number in the complement of two.",
                QuestionsTest::lowInTheComplementOfTwo);
        sentence(28, NO_REGISTER, () -> refusesRegisters("low", (x, register, base) -> x.low(register)));

        sentence(29, "Returns the mean value of the digits of a register.", QuestionsTest::meanDigit);
        sentence(29, "Returns the sum of the digits converted to double, divided by their count, converted to double.",
                QuestionsTest::meanDigitInDouble);
        sentence(29, NO_REGISTER, () -> refusesRegisters("meanDigit", Radixtape::meanDigit));
        sentence(29, NO_BASE, () -> refusesBases("meanDigit", Radixtape::meanDigit));
    }

    private static void promises30And31() {
        sentence(30, "Returns how much of the tape is digits of a base.", QuestionsTest::digitShare);
        sentence(30, "Returns the number of signs that are digits of the base, converted to float, divided by the length"
                + " of the tape, converted to float", QuestionsTest::digitShareInFloat);
        sentence(30, "0.0f for an empty tape.", QuestionsTest::digitShareOfNothing);
        sentence(30, NO_BASE, QuestionsTest::digitShareNoBase);

        sentence(31, "for each register and each base, that what is written is read as the number",
                QuestionsTest::writtenIsRead);
        sentence(31, "(also with a plus ahead of a number that is not below 0, in capitals, and with digits 0 put ahead"
                + " of its digits)", QuestionsTest::variantsAreRead);
        sentence(31, "has the form that is told", QuestionsTest::writtenHasTheForm);
        sentence(31, "and has as many digits as told by powers of the base", QuestionsTest::digitsByPowers);
        sentence(31, "and for each base, that the tape is refused just if it has not that form",
                QuestionsTest::tapeIsRefusedByItsForm);
        sentence(31, "Returns how many of these things are not so; always 0.", QuestionsTest::errorsAlways0);
    }

    // ---- what is refused

    private static void refusesRegisters(String name, Asked question) {
        for (int register : NO_REGISTERS) {
            refuses(name + " of " + register, INDEX, () -> tape("12"), x -> question.ask(x, register, 10));
        }
        for (int register = 0; register <= 3; register++) {
            int known = register;
            dueThrown(name + " of " + register, thrownBy(tape("12"), x -> question.ask(x, known, 10)), null);
        }
    }

    private static void refusesBases(String name, Asked question) {
        for (int base : NO_BASES) {
            refuses(name + " in " + base, ARGUMENT, () -> withRegister(1, 12), x -> question.ask(x, 1, base));
            refuses(name + " of 4 in " + base, INDEX, () -> withRegister(1, 12), x -> question.ask(x, 4, base));
        }
        for (int base = 2; base <= 36; base++) {
            int known = base;
            dueThrown(name + " in " + base, thrownBy(tape("12"), x -> question.ask(x, 1, known)), null);
        }
    }

    /** Numbers at which a digit, a limb or a sign turns over. */
    private static List<BigInteger> edgeNumbers() {
        List<BigInteger> numbers = new ArrayList<>();
        for (int power : new int[] {0, 1, 31, 32, 33, 63, 64, 65, 95, 96, 128, 799}) {
            BigInteger number = BigInteger.ONE.shiftLeft(power);
            for (int more = -1; more <= 1; more++) {
                numbers.add(number.add(BigInteger.valueOf(more)));
                numbers.add(number.add(BigInteger.valueOf(more)).negate());
            }
        }
        numbers.add(GREATEST);
        numbers.add(GREATEST.negate());
        numbers.add(BigInteger.TEN.pow(240));
        numbers.add(new BigInteger("-123456789abcdefghijklmnopqrstuvwxyz", 36));
        return numbers;
    }

    // ---- promise 17: undo

    private static void undone() {
        Radixtape x = new Radixtape();
        x.type('a');
        x.type('b');
        x.set(0, 5);
        x.negate(0);
        x.undo();
        dueNumber("the negate is undone", x, 0, 5);
        dueText("the tape stays", x, "ab");
        x.undo();
        dueNumber("the set is undone", x, 0, 0);
        x.undo();
        dueText("a type is undone", x, "a");
        x.undo();
        dueText("the first type is undone", x, "");
    }

    private static void undoneHowManyMore() {
        for (int changes = 1; changes <= 45; changes++) {
            Radixtape x = new Radixtape();
            for (int i = 0; i < changes; i++) {
                x.type('a');
            }
            int most = Math.min(changes, 20);
            for (int more = most - 1; more >= 0; more--) {
                due("undo behind " + changes + " changes", x.undo(), more);
                due("length then", x.length(), changes - most + more);
            }
        }
    }

    private static void undoneNone() {
        refuses("undo on a new object", ELEMENT, Radixtape::new, Radixtape::undo);
        Radixtape x = new Radixtape();
        for (int i = 1; i <= 21; i++) {
            x.set(0, i);
        }
        for (int i = 1; i <= 20; i++) {
            x.undo();
        }
        for (int i = 0; i < 3; i++) {
            refused("undo behind 20 undoings", ELEMENT, x, x::undo);
        }
        dueNumber("the number that the 21st leaves", x, 0, 1);
        x.set(0, 9);
        due("undo of a new change", x.undo(), 0);
        dueNumber("the number behind it", x, 0, 1);
        refused("undo once more", ELEMENT, x, x::undo);
        Radixtape refused = new Radixtape();
        thrownBy(refused, y -> y.read(0, 10));
        refused("undo of a refused call", ELEMENT, refused, refused::undo);
    }

    // ---- promise 18: length

    private static void lengthOfTheTape() {
        for (int count : new int[] {0, 1, 2, 127, 128, 255, 256, 1199, 1200}) {
            due("length of " + count, tape("a".repeat(count)).length(), count);
        }
    }

    private static void lengthBehindEachChange() {
        Radixtape x = tape("-1F");
        x.write(0, 2);
        due("length behind write", x.length(), 4);
        x.change(16, 2);
        due("length behind change", x.length(), 10);
        x.cut(1, 3);
        due("length behind cut", x.length(), 8);
        x.wipe();
        due("length behind wipe", x.length(), 0);
        x.undo();
        due("length behind undo", x.length(), 8);
    }

    // ---- promise 19: signAt

    private static void signAt() {
        String text = "0123456789 ~".repeat(100);
        Radixtape x = tape(text);
        for (int i = 0; i < 1200; i++) {
            due("sign " + i, x.signAt(i), text.charAt(i));
        }
    }

    private static void signCode() {
        for (int code = 32; code <= 126; code++) {
            due("a sign", tape("a" + (char) code).signAt(1), code);
        }
    }

    private static void signNowhere() {
        for (int index : new int[] {Integer.MIN_VALUE, -1, 3, 4, 1199, 1200, Integer.MAX_VALUE}) {
            refuses("signAt of " + index, INDEX, () -> tape("abc"), x -> x.signAt(index));
        }
        refuses("signAt of 1200 on a full tape", INDEX, () -> tape("a".repeat(1200)), x -> x.signAt(1200));
        refuses("signAt on an empty tape", INDEX, Radixtape::new, x -> x.signAt(0));
        Radixtape cut = tape("abc");
        cut.cut(1, 2);
        refused("signAt of what was cut", INDEX, cut, () -> cut.signAt(2));
        cut.wipe();
        refused("signAt of what was wiped", INDEX, cut, () -> cut.signAt(0));
    }

    // ---- promise 20: isNumber

    private static void isNumber() {
        for (int base = 2; base <= 36; base++) {
            for (int digit = 0; digit < 36; digit++) {
                String sign = Integer.toString(digit, 36);
                due("isNumber of " + sign, tape(sign).isNumber(base), digit < base);
                due("isNumber of -0" + sign, tape("-0" + sign.toUpperCase()).isNumber(base), digit < base);
                due("isNumber of +" + sign + "0", tape("+" + sign + "0").isNumber(base), digit < base);
            }
        }
        String[] bad = {"", "+", "-", "++1", "1+", "-+1", " 1", "1 ", "1_1", "1.1", "1".repeat(1199) + "-"};
        for (String text : bad) {
            due("isNumber of '" + text + "'", tape(text).isNumber(36), false);
        }
        due("isNumber of 1200 digits, too large to be read", tape("1".repeat(1200)).isNumber(2), true);
    }

    private static void isNumberInBase2To36() {
        Radixtape full = tape("0".repeat(1200));
        for (int base = -150; base <= 150; base++) {
            due("isNumber of 1 in " + base, tape("1").isNumber(base), base >= 2 && base <= 36);
            due("isNumber of 0 in " + base, tape("0").isNumber(base), base >= 2 && base <= 36);
            due("isNumber of 1200 digits 0 in " + base, full.isNumber(base), base >= 2 && base <= 36);
            due("isNumber of nothing in " + base, new Radixtape().isNumber(base), false);
        }
        due("isNumber in the least int", tape("1").isNumber(Integer.MIN_VALUE), false);
        due("isNumber in the greatest int", tape("1").isNumber(Integer.MAX_VALUE), false);
    }

    // ---- promise 21: leastBase

    private static void leastBase() {
        for (int digit = 0; digit < 36; digit++) {
            String sign = Integer.toString(digit, 36);
            int want = Math.max(2, digit + 1);
            due("leastBase of " + sign, tape(sign).leastBase(), want);
            due("leastBase of -0 with it", tape("-0" + sign.toUpperCase()).leastBase(), want);
            due("leastBase of + with it ahead of 0", tape("+" + sign + "0").leastBase(), want);
        }
        due("leastBase of 1200 digits 0", tape("0".repeat(1200)).leastBase(), 2);
        due("leastBase of 1200 digits, the last one greater", tape("0".repeat(1199) + "Z").leastBase(), 36);
    }

    private static void leastBaseNone() {
        for (String text : new String[] {"", "+", "-", "+-1", "1-", "a!", " 1", "1 ", "{", "_", "1".repeat(1199) + "~"}) {
            due("leastBase of '" + text + "'", tape(text).leastBase(), -1);
        }
    }

    // ---- promise 22: compare

    private static void compared() {
        List<BigInteger> numbers = edgeNumbers();
        for (BigInteger number : numbers) {
            for (BigInteger other : numbers) {
                Radixtape x = new Radixtape();
                typeNumber(x, 1, number);
                typeNumber(x, 2, other);
                due("compare of " + number + " with " + other, x.compare(1, 2), number.compareTo(other));
                due("compare the other way", x.compare(2, 1), other.compareTo(number));
            }
        }
    }

    /** Brings a number into a register by few calls. */
    private static void typeNumber(Radixtape x, int register, BigInteger number) {
        if (number.bitLength() < 64) {
            x.set(register, number.longValue());
            return;
        }
        x.wipe();
        typeText(x, number.toString(36));
        x.read(register, 36);
    }

    private static void comparedAtTheEdges() {
        Radixtape x = withRegister(0, GREATEST);
        putRegister(x, 1, GREATEST.negate());
        putRegister(x, 2, GREATEST.subtract(BigInteger.ONE));
        due("the greatest with the least", x.compare(0, 1), 1);
        due("the least with the greatest", x.compare(1, 0), -1);
        due("the greatest with one less", x.compare(0, 2), 1);
        due("one less with the greatest", x.compare(2, 0), -1);
        due("the least with 0", x.compare(1, 3), -1);
        due("0 with the least", x.compare(3, 1), 1);
        for (int register = 0; register <= 3; register++) {
            due("a register with itself", x.compare(register, register), 0);
        }
        due("0 with 0", new Radixtape().compare(0, 1), 0);
    }

    private static void compareNoRegister() {
        for (int register : NO_REGISTERS) {
            refuses("compare of " + register, INDEX, () -> tape("12"), x -> x.compare(register, 0));
            refuses("compare with " + register, INDEX, () -> tape("12"), x -> x.compare(0, register));
            refuses("compare of " + register + " with itself", INDEX, () -> tape("12"),
                    x -> x.compare(register, register));
        }
    }

    // ---- promise 23: signum

    private static void signum() {
        for (BigInteger number : edgeNumbers()) {
            due("signum of " + number, withRegister(3, number).signum(3), number.signum());
        }
    }

    private static void signumAtTheEdges() {
        due("signum of 1", withRegister(0, 1).signum(0), 1);
        due("signum of 0", new Radixtape().signum(0), 0);
        due("signum of -1", withRegister(0, -1).signum(0), -1);
        Radixtape minus = tape("-000");
        minus.read(0, 10);
        due("signum of -000", minus.signum(0), 0);
        Radixtape high = withRegister(0, BigInteger.ONE.shiftLeft(799).negate());
        due("signum of a number whose lowest bits are 0", high.signum(0), -1);
    }

    // ---- promise 24: digits

    private static void digits() {
        for (BigInteger number : edgeNumbers()) {
            for (int base = 2; base <= 36; base++) {
                due("digits of " + number + " in " + base, withRegister(2, number).digits(2, base),
                        number.abs().toString(base).length());
            }
        }
        for (int base = 2; base <= 36; base++) {
            for (int power = 1; power <= 150; power += 4) {
                Radixtape x = withRegister(0, BigInteger.valueOf(base).pow(power));
                due("digits of a power of " + base, x.digits(0, base), power + 1);
                x.multiply(0, 1, -1);
                due("digits of one less", x.digits(0, base), power);
            }
        }
    }

    private static void digitsOf0() {
        for (int base = 2; base <= 36; base++) {
            for (int register = 0; register <= 3; register++) {
                due("digits of 0", new Radixtape().digits(register, base), 1);
            }
            due("digits of 1", withRegister(0, 1).digits(0, base), 1);
        }
        Radixtape x = withRegister(0, GREATEST);
        x.multiply(0, 0, 0);
        due("digits of what became 0", x.digits(0, 36), 1);
    }

    // ---- promise 25: digitAt

    private static void digitAt() {
        for (BigInteger number : edgeNumbers()) {
            Radixtape x = withRegister(2, number);
            for (int base = 2; base <= 36; base += 17) {
                String text = number.abs().toString(base);
                for (int i = 0; i < text.length(); i++) {
                    int want = Character.digit(text.charAt(text.length() - 1 - i), 36);
                    due("digit " + i + " of " + number + " in " + base, x.digitAt(2, base, i), want);
                }
            }
        }
    }

    private static void digitAt0IsTheLast() {
        for (int base = 2; base <= 36; base++) {
            Radixtape x = withRegister(0, -base * (long) base - 1);
            due("the last digit", x.digitAt(0, base, 0), 1);
            due("the one ahead", x.digitAt(0, base, 1), 0);
            due("the first digit", x.digitAt(0, base, 2), 1);
            due("the digit of 0", x.digitAt(1, base, 0), 0);
        }
    }

    private static void digitAtOfEachValue() {
        for (int base = 2; base <= 36; base++) {
            for (int value = 0; value < base; value++) {
                Radixtape x = withRegister(0, (long) base * base + value);
                due("digit in " + base, x.digitAt(0, base, 0), value);
            }
        }
    }

    private static void digitAtNoRegister() {
        refusesRegisters("digitAt", (x, register, base) -> x.digitAt(register, base, 0));
        for (int register : NO_REGISTERS) {
            refuses("digitAt of " + register + ", no such digit", INDEX, Radixtape::new,
                    x -> x.digitAt(register, 10, 99));
        }
    }

    private static void digitAtNoBase() {
        refusesBases("digitAt", (x, register, base) -> x.digitAt(register, base, 0));
        for (int base : NO_BASES) {
            refuses("digitAt in " + base + ", no such digit", ARGUMENT, Radixtape::new, x -> x.digitAt(0, base, 99));
        }
    }

    private static void digitAtNoDigit() {
        for (BigInteger number : new BigInteger[] {BigInteger.ZERO, BigInteger.valueOf(-255), GREATEST}) {
            Recipe recipe = () -> withRegister(0, number);
            for (int base = 2; base <= 36; base++) {
                int known = base;
                int count = number.abs().toString(base).length();
                for (int index : new int[] {Integer.MIN_VALUE, -1, count, count + 1, Integer.MAX_VALUE}) {
                    Radixtape x = recipe.make();
                    refused("digit " + index + " in " + base, ELEMENT, x, () -> x.digitAt(0, known, index));
                }
                dueThrown("the first digit", thrownBy(recipe.make(), x -> x.digitAt(0, known, count - 1)), null);
            }
        }
    }

    // ---- promise 26: sumOfDigits

    private static int sumOf(BigInteger number, int base) {
        return number.abs().toString(base).chars().map(sign -> Character.digit(sign, 36)).sum();
    }

    private static void sumOfDigits() {
        for (BigInteger number : edgeNumbers()) {
            for (int base = 2; base <= 36; base++) {
                due("sumOfDigits of " + number + " in " + base, withRegister(1, number).sumOfDigits(1, base),
                        sumOf(number, base));
            }
        }
    }

    private static void sumOfDigitsAtTheEdges() {
        for (int base = 2; base <= 36; base++) {
            due("sumOfDigits of 0", new Radixtape().sumOfDigits(0, base), 0);
            due("sumOfDigits of the base", withRegister(0, base).sumOfDigits(0, base), 1);
            due("sumOfDigits of one less", withRegister(0, -base + 1).sumOfDigits(0, base), base - 1);
        }
        due("sumOfDigits of 800 digits 1", withRegister(0, GREATEST).sumOfDigits(0, 2), 800);
        due("sumOfDigits of 200 digits f", withRegister(0, GREATEST.negate()).sumOfDigits(0, 16), 3000);
    }

    // ---- promise 27: isMirrored

    private static boolean mirrors(BigInteger number, int base) {
        String digits = number.abs().toString(base);
        return new StringBuilder(digits).reverse().toString().equals(digits);
    }

    private static void isMirrored() {
        for (BigInteger number : edgeNumbers()) {
            for (int base = 2; base <= 36; base++) {
                due("isMirrored of " + number + " in " + base, withRegister(1, number).isMirrored(1, base),
                        mirrors(number, base));
            }
        }
        for (int number = -1500; number <= 1500; number++) {
            BigInteger known = BigInteger.valueOf(number);
            due("isMirrored of " + number, withRegister(0, number).isMirrored(0, 10), mirrors(known, 10));
        }
    }

    private static void isMirroredAtTheEdges() {
        for (int base = 2; base <= 36; base++) {
            due("isMirrored of 0", new Radixtape().isMirrored(0, base), true);
            due("isMirrored of 1", withRegister(0, 1).isMirrored(0, base), true);
            due("isMirrored of 10", withRegister(0, base).isMirrored(0, base), false);
            due("isMirrored of -11", withRegister(0, -base - 1).isMirrored(0, base), true);
            due("isMirrored of 101", withRegister(0, (long) base * base + 1).isMirrored(0, base), true);
        }
        due("isMirrored of 800 digits 1", withRegister(0, GREATEST).isMirrored(0, 2), true);
        BigInteger one = BigInteger.ONE;
        due("isMirrored, the last one not", withRegister(0, GREATEST.subtract(one)).isMirrored(0, 2), false);
        BigInteger ends = one.shiftLeft(799).add(one);
        due("isMirrored of 1 at both ends", withRegister(0, ends).isMirrored(0, 2), true);
        due("isMirrored, but for the middle", withRegister(0, ends.add(one.shiftLeft(399))).isMirrored(0, 2), false);
    }

    // ---- promise 28: low

    private static void low() {
        for (BigInteger number : edgeNumbers()) {
            for (int register = 0; register <= 3; register++) {
                due("low of " + number, withRegister(register, number).low(register), number.longValue());
            }
        }
    }

    private static void lowInTheComplementOfTwo() {
        BigInteger one = BigInteger.ONE;
        due("low of -1", withRegister(0, -1).low(0), -1);
        due("low of 2 to 63", withRegister(0, one.shiftLeft(63)).low(0), Long.MIN_VALUE);
        due("low of - 2 to 63", withRegister(0, one.shiftLeft(63).negate()).low(0), Long.MIN_VALUE);
        due("low of 2 to 64 less 1", withRegister(0, one.shiftLeft(64).subtract(one)).low(0), -1);
        due("low of 2 to 64", withRegister(0, one.shiftLeft(64)).low(0), 0);
        due("low of - 2 to 64 less 1", withRegister(0, one.shiftLeft(64).add(one).negate()).low(0), -1);
        due("low of - 2 to 32", withRegister(0, one.shiftLeft(32).negate()).low(0), -(1L << 32));
        due("low of the greatest", withRegister(0, GREATEST).low(0), -1);
        due("low of the least", withRegister(0, GREATEST.negate()).low(0), 1);
        BigInteger pattern = new BigInteger("123456789abcdef0fedcba9876543210f", 16);
        due("low of a pattern", withRegister(0, pattern).low(0), 0xfedcba9876543210L << 4 | 15);
        due("low of its opposite", withRegister(0, pattern.negate()).low(0), -(0xfedcba9876543210L << 4 | 15));
    }

    // ---- promise 29: meanDigit

    private static void meanDigit() {
        Radixtape x = new Radixtape();
        dueReal("meanDigit of 0", x.meanDigit(0, 10), 0.0);
        x.set(0, -255);
        dueReal("meanDigit of ff", x.meanDigit(0, 16), 15.0);
        dueReal("meanDigit of 255", x.meanDigit(0, 10), 4.0);
        x.set(0, 12);
        dueReal("meanDigit of 12", x.meanDigit(0, 10), 1.5);
        dueReal("meanDigit of 800 digits 1", withRegister(0, GREATEST).meanDigit(0, 2), 1.0);
    }

    private static void meanDigitInDouble() {
        dueReal("meanDigit of -100", withRegister(0, -100).meanDigit(0, 10), 1.0 / 3.0);
        dueReal("meanDigit of 2000002", withRegister(0, 2000002).meanDigit(0, 10), 4.0 / 7.0);
        for (BigInteger number : edgeNumbers()) {
            for (int base = 2; base <= 36; base++) {
                double want = (double) sumOf(number, base) / (double) number.abs().toString(base).length();
                dueReal("meanDigit of " + number + " in " + base, withRegister(1, number).meanDigit(1, base), want);
            }
        }
    }

    // ---- promise 30: digitShare

    private static void digitShare() {
        String text = "+-09afAFzZ !";
        Radixtape x = tape(text);
        for (int base = 2; base <= 36; base++) {
            int known = base;
            long digits = text.chars().filter(sign -> Character.digit(sign, known) >= 0).count();
            dueReal("digitShare in " + base, x.digitShare(base), (float) digits / 12.0f);
        }
        dueReal("digitShare of no digit", tape("+-!").digitShare(36), 0.0f);
        dueReal("digitShare of digits alone", tape("0".repeat(1200)).digitShare(2), 1.0f);
        dueReal("digitShare, the first and the last", tape("f!!f").digitShare(16), 0.5f);
    }

    private static void digitShareInFloat() {
        for (int count = 1; count <= 1200; count += count < 40 ? 1 : 29) {
            for (int digits = 0; digits <= count; digits += 1 + count / 20) {
                Radixtape x = tape("1".repeat(digits) + "!".repeat(count - digits));
                dueReal(digits + " of " + count, x.digitShare(2), (float) digits / (float) count);
            }
        }
    }

    private static void digitShareOfNothing() {
        for (int base = 2; base <= 36; base++) {
            due("digitShare of nothing", Float.floatToRawIntBits(new Radixtape().digitShare(base)), 0);
        }
        Radixtape x = tape("11");
        x.wipe();
        due("digitShare of what was wiped", Float.floatToRawIntBits(x.digitShare(2)), 0);
    }

    private static void digitShareNoBase() {
        for (int base : NO_BASES) {
            refuses("digitShare in " + base, ARGUMENT, () -> tape("12"), x -> x.digitShare(base));
            refuses("digitShare of nothing in " + base, ARGUMENT, Radixtape::new, x -> x.digitShare(base));
        }
        dueReal("digitShare in 2", tape("1a").digitShare(2), 0.5f);
        dueReal("digitShare in 36", tape("1a").digitShare(36), 1.0f);
    }

    // ---- promise 31: errors (what it checks must be so, and it must answer 0 wherever that is looked at)

    private static void writtenIsRead() {
        for (BigInteger number : edgeNumbers()) {
            Radixtape x = withRegister(0, number);
            due("errors with " + number, x.errors(), 0);
            for (int base = 2; base <= 36; base++) {
                x.wipe();
                x.write(0, base);
                x.read(1, base);
                due("what is written and read of " + number + " in " + base, x.compare(0, 1), 0);
            }
        }
    }

    private static void variantsAreRead() {
        for (BigInteger number : edgeNumbers()) {
            for (int base = 2; base <= 36; base += 2) {
                String text = number.abs().toString(base);
                String minus = number.signum() < 0 ? "-" : "";
                dueRead(minus + text.toUpperCase(), base, number);
                dueRead(minus + "0" + text, base, number);
                dueRead(minus + "0".repeat(300) + text, base, number);
                if (number.signum() >= 0) {
                    dueRead("+" + text, base, number);
                }
            }
        }
    }

    private static void dueRead(String text, int base, BigInteger number) {
        Radixtape x = tape(text);
        due("read of " + text, x.read(0, base), number.signum());
        dueNumber(text + " in " + base, x, 0, number);
        due("errors then", x.errors(), 0);
    }

    private static void writtenHasTheForm() {
        for (BigInteger number : edgeNumbers()) {
            for (int base = 2; base <= 36; base++) {
                Radixtape x = withRegister(0, number);
                x.write(0, base);
                dueText("written in " + base, x, number.toString(base));
                due("isNumber of what is written", x.isNumber(base), true);
            }
        }
    }

    private static void digitsByPowers() {
        for (int base = 2; base <= 36; base++) {
            BigInteger power = BigInteger.ONE;
            for (int count = 1; power.compareTo(GREATEST) <= 0; count++) {
                if (count % 11 == 1 || power.bitLength() > 790) {
                    Radixtape x = withRegister(0, power);
                    due("digits of a power of " + base, x.digits(0, base), count);
                    due("errors then", count % 33 == 1 ? x.errors() : 0, 0);
                }
                power = power.multiply(BigInteger.valueOf(base));
            }
        }
    }

    private static void tapeIsRefusedByItsForm() {
        String[] texts = {"", "+", "-", "+-1", "-0", "+1", "zZ", "12x!", " 1", "1 ", "00000"};
        for (String text : texts) {
            due("errors with the tape '" + text + "'", tape(text).errors(), 0);
            for (int base = 2; base <= 36; base++) {
                int known = base;
                Radixtape x = tape(text);
                boolean hasForm = x.isNumber(base);
                dueThrown("read of '" + text + "' in " + base, thrownBy(x, y -> y.read(0, known)),
                        hasForm ? null : FORMAT);
            }
        }
        for (String text : new String[] {"z".repeat(1200), LIMIT.toString(10), "-" + LIMIT.toString(2), "1".repeat(1199) + "~"}) {
            due("errors with a tape that is too large", tape(text).errors(), 0);
        }
    }

    private static void errorsAlways0() {
        BigInteger[] numbers = {GREATEST, GREATEST.negate(), BigInteger.ZERO, BigInteger.ONE.shiftLeft(799).negate()};
        Recipe recipe = () -> {
            Radixtape x = tape("-1z");
            for (int register = 0; register < 4; register++) {
                typeNumber(x, register, numbers[register]);
            }
            return x;
        };
        Radixtape x = recipe.make();
        due("errors", x.errors(), 0);
        due("errors once more", x.errors(), 0);
        dueString("errors leaves what", historyOf(x), historyOf(recipe.make()));
        due("errors of a new object", new Radixtape().errors(), 0);
        Radixtape refused = tape("!");
        thrownBy(refused, y -> y.read(0, 10));
        due("errors behind a refused call", refused.errors(), 0);
    }
}
