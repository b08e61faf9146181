import java.math.BigInteger;
import java.util.ArrayList;
import java.util.List;

/** Each sentence of the document's Terms 1 to 3, and of what it is, has a test of its own here. */
public final class TermsTest extends Sentences {
    private static final String TERMS = "Terms";

    /** A call that is told a register; the others that it takes are there. */
    private interface RegisterCall {
        void on(Radixtape x, int register);
    }

    private record NamedCall(String name, Call call) { }

    private record NamedRegisterCall(String name, RegisterCall call) { }

    public static void main(String[] args) {
        objectTerms();
        tapeTerms();
        registerTerms();
        refusalTerms();
        textTerms();
        undoTerms();
        endWith(args, "What it is", TERMS);
    }

    private static void objectTerms() {
        sentence("What it is", "changed from base to base", TermsTest::changedFromBaseToBase);
        sentence("What it is", "An object is used for at most 512 calls after it has been made",
                TermsTest::all512CallsAnswer);
        sentence(TERMS, "The constants: `NONE = -1`: There is none.",
                () -> due("NONE", Radixtape.NONE, -1));
    }

    private static void tapeTerms() {
        sentence(TERMS, "The tape is a row of at most 1200 signs", TermsTest::atMost1200Signs);
        sentence(TERMS, "with the codes 32 to 126", TermsTest::codes32To126);
        sentence(TERMS, "and empty at first", TermsTest::emptyAtFirst);
        sentence(TERMS, "its signs are numbered from 0", TermsTest::signsNumberedFrom0);
    }

    private static void registerTerms() {
        sentence(TERMS, "There are the registers 0 to 3", TermsTest::registers0To3);
        sentence(TERMS, "each with a whole number, 0 at first", TermsTest::registersAre0AtFirst);
        sentence(TERMS, "The size of a number (without its sign) is below 2 to the power 800",
                TermsTest::sizeBelow2ToThe800);
        sentence(TERMS, "what would bring another number into a register is refused", TermsTest::otherNumbersRefused);
        sentence(TERMS, "The digits of a base are the first ones, as many as the base tells, of 0 to 9 and a to z",
                TermsTest::digitsOfABase);
        sentence(TERMS, "a capital letter is the same digit as the small one", TermsTest::capitalIsTheSameDigit);
    }

    private static void refusalTerms() {
        sentence(TERMS, "If several exceptions apply to a call, the one that is listed first is thrown",
                TermsTest::firstListedIsThrown);
        sentence(TERMS, "a call that throws an exception changes nothing", TermsTest::throwingChangesNothing);
        sentence(TERMS, "An IndexOutOfBoundsException is thrown for a register that does not exist",
                TermsTest::noSuchRegister);
        sentence(TERMS, "and for signs as told.", TermsTest::noSuchSigns);
    }

    private static void textTerms() {
        sentence(TERMS, "A text is read in a base from 2 to 36 as a number", TermsTest::readInBases2To36);
        sentence(TERMS, "if it is a plus or a minus, or neither, and behind it one or more digits of the base.",
                TermsTest::formOfANumber);
        sentence(TERMS, "A number is written in a base from 2 to 36 with small letters", TermsTest::smallLetters);
        sentence(TERMS, "without digits 0 ahead of others", TermsTest::noZerosAhead);
        sentence(TERMS, "with a minus ahead if it is below 0", TermsTest::minusIfBelow0);
        sentence(TERMS, "in any other base it is written as in the base 10.", TermsTest::otherBaseAsInBase10);
        sentence(TERMS, "The digits of a number in a base are those that are written; a minus is none of them.",
                TermsTest::minusIsNoDigit);
        sentence(TERMS, "They are numbered from the last one on, which has the number 0.",
                TermsTest::digitsNumberedFromTheLast);
    }

    private static void undoTerms() {
        sentence(TERMS, "Each call of the section \"changes\" below that does not throw an exception is a change",
                TermsTest::eachChangeIsOne);
        sentence(TERMS, "even if nothing is another one by it", TermsTest::changeOfNothingIsOne);
        sentence(TERMS, "The latest 20 changes can be undone, the latest one first", TermsTest::latest20);
        sentence(TERMS, "the tape and the registers are then as they were ahead of it.", TermsTest::asTheyWereAhead);
        sentence(TERMS, "the interface says: ---- changes.", TermsTest::eachChangeIsOne);
        sentence(TERMS, "Ahead of the calls `undo` the interface says: ---- undoing.", TermsTest::undoIsNoChange);
        sentence(TERMS, "the interface says: ---- questions.", TermsTest::questionsAreNoChanges);
    }

    // ---- the object

    private static void changedFromBaseToBase() {
        for (int base = 2; base <= 36; base++) {
            for (int other = 2; other <= 36; other++) {
                BigInteger number = BigInteger.valueOf(-base).pow(other);
                Radixtape x = tape(number.toString(base));
                x.change(base, other);
                dueText("change from " + base + " to " + other, x, number.toString(other));
            }
        }
    }

    private static void all512CallsAnswer() {
        Radixtape typed = new Radixtape();
        for (int call = 1; call <= 492; call++) {
            due("call " + call + ", type", typed.type('a' + call % 26), call);
        }
        for (int call = 493; call <= 511; call++) {
            due("call " + call + ", undo", typed.undo(), 512 - call);
        }
        due("call 512, signAt", typed.signAt(472), 'a' + 473 % 26);

        Radixtape refused = new Radixtape();
        for (int call = 1; call <= 510; call++) {
            dueThrown("call " + call + ", read", thrownBy(refused, x -> x.read(0, 10)), FORMAT);
        }
        due("call 511, set", refused.set(0, 5), 0);
        due("call 512, low", refused.low(0), 5);

        Radixtape asked = withRegister(3, -9);
        for (int call = 2; call <= 512; call++) {
            due("call " + call + ", errors", asked.errors(), 0);
        }
    }

    // ---- the tape

    private static void atMost1200Signs() {
        Radixtape x = tape("a".repeat(1199));
        due("type of sign 1200", x.type('b'), 1200);
        due("the last sign", x.signAt(1199), 'b');
        refuses("type of sign 1201", STATE, () -> tape("a".repeat(1200)), y -> y.type('b'));
        refuses("type of 8 signs behind 1193", STATE, () -> tape("a".repeat(1193)), y -> y.type(0x6161616161616161L));
        due("type of 8 signs behind 1192", tape("a".repeat(1192)).type(0x6161616161616161L), 1200);
        refuses("write behind 1200", STATE, () -> tape("a".repeat(1200)), y -> y.write(0, 10));
        due("write behind 1199", tape("a".repeat(1199)).write(0, 10), 1);
        writtenToTheBrim(GREATEST, 400);
        writtenToTheBrim(GREATEST.negate(), 399);

        due("cut of a full tape", x.cut(0, 1), 1199);
        due("type behind it", x.type('c'), 1200);
        due("reverse of a full tape", x.reverse(), 1200);
        due("first sign of it", x.signAt(0), 'c');
        due("capitals of a full tape", x.capitals(true), 1200);
        due("setSign at its end", x.setSign(1199, '~'), 'A');
    }

    private static void writtenToTheBrim(BigInteger number, int ahead) {
        Radixtape x = withRegister(0, number);
        typeText(x, "a".repeat(ahead));
        due("write to the brim", x.write(0, 2), 1200 - ahead);
        dueText("what is written to the brim", x, "a".repeat(ahead) + number.toString(2));
        Recipe longer = () -> {
            Radixtape y = withRegister(0, number);
            typeText(y, "a".repeat(ahead + 1));
            return y;
        };
        refuses("write of one too many", STATE, longer, y -> y.write(0, 2));
    }

    private static void codes32To126() {
        for (int code = 0; code < 256; code++) {
            for (int place = 0; place < 8; place++) {
                long signs = 0x6161616161616161L & ~(255L << 8 * place) | (long) code << 8 * place;
                boolean isRefused = code != 0 && (code < 32 || code > 126);
                Class<?> got = thrownBy(new Radixtape(), x -> x.type(signs));
                dueThrown("type of code " + code + " at byte " + place, got, isRefused ? ARGUMENT : null);
            }
        }
        for (int code = -300; code <= 600; code++) {
            int sign = code;
            Radixtape x = tape("a");
            Class<?> got = thrownBy(x, y -> y.setSign(0, sign));
            boolean isSign = code >= 32 && code <= 126;
            dueThrown("setSign to code " + code, got, isSign ? null : ARGUMENT);
            due("the sign behind setSign to code " + code, x.signAt(0), isSign ? code : 'a');
        }
    }

    private static void emptyAtFirst() {
        Radixtape x = new Radixtape();
        due("length", x.length(), 0);
        dueThrown("signAt(0)", thrownBy(x, y -> y.signAt(0)), INDEX);
        due("wipe", x.wipe(), 0);
        due("type behind nothing", tape("a").length(), 1);
    }

    private static void signsNumberedFrom0() {
        Radixtape x = tape("abc");
        due("sign 0", x.signAt(0), 'a');
        due("sign 2", x.signAt(2), 'c');
        due("setSign of sign 0", x.setSign(0, 'x'), 'a');
        due("setSign of sign 2", x.setSign(2, 'z'), 'c');
        dueText("the tape", x, "xbz");
        x.cut(0, 1);
        dueText("the tape without sign 0", x, "bz");
        refuses("sign 3", INDEX, () -> tape("abc"), y -> y.signAt(3));
        refuses("sign -1", INDEX, () -> tape("abc"), y -> y.signAt(-1));
    }

    // ---- the registers

    private static List<NamedRegisterCall> registerCalls() {
        return List.of(
                new NamedRegisterCall("read", (x, register) -> x.read(register, 10)),
                new NamedRegisterCall("write", (x, register) -> x.write(register, 10)),
                new NamedRegisterCall("hear", (x, register) -> x.hear(register, 10, 10)),
                new NamedRegisterCall("set", (x, register) -> x.set(register, 3)),
                new NamedRegisterCall("add from", (x, register) -> x.add(register, 0)),
                new NamedRegisterCall("add to", (x, register) -> x.add(0, register)),
                new NamedRegisterCall("multiply", (x, register) -> x.multiply(register, 2, 1)),
                new NamedRegisterCall("negate", (x, register) -> x.negate(register)),
                new NamedRegisterCall("step", (x, register) -> x.step(register, 10, true)),
                new NamedRegisterCall("compare", (x, register) -> x.compare(register, 0)),
                new NamedRegisterCall("compare with", (x, register) -> x.compare(0, register)),
                new NamedRegisterCall("signum", (x, register) -> x.signum(register)),
                new NamedRegisterCall("digits", (x, register) -> x.digits(register, 10)),
                new NamedRegisterCall("digitAt", (x, register) -> x.digitAt(register, 10, 0)),
                new NamedRegisterCall("sumOfDigits", (x, register) -> x.sumOfDigits(register, 10)),
                new NamedRegisterCall("isMirrored", (x, register) -> x.isMirrored(register, 10)),
                new NamedRegisterCall("low", (x, register) -> x.low(register)),
                new NamedRegisterCall("meanDigit", (x, register) -> x.meanDigit(register, 10)));
    }

    private static void registers0To3() {
        for (NamedRegisterCall named : registerCalls()) {
            for (int register = 0; register <= 3; register++) {
                int known = register;
                Class<?> got = thrownBy(tape("12"), x -> named.call().on(x, known));
                dueThrown(named.name() + " of register " + register, got, null);
            }
        }
        Radixtape x = new Radixtape();
        for (int register = 0; register <= 3; register++) {
            x.set(register, 100 + register);
        }
        for (int register = 0; register <= 3; register++) {
            dueNumber("register " + register + " has its own number", x, register, 100 + register);
        }
    }

    private static void noSuchRegister() {
        for (NamedRegisterCall named : registerCalls()) {
            for (int register : NO_REGISTERS) {
                refuses(named.name() + " of register " + register, INDEX, () -> tape("12"),
                        x -> named.call().on(x, register));
            }
        }
    }

    private static void noSuchSigns() {
        Recipe recipe = () -> tape("abc");
        for (int index : new int[] {Integer.MIN_VALUE, -1, 3, 1199, 1200, Integer.MAX_VALUE}) {
            refuses("signAt of " + index, INDEX, recipe, x -> x.signAt(index));
            refuses("setSign of " + index, INDEX, recipe, x -> x.setSign(index, 'a'));
        }
        refuses("cut from -1", INDEX, recipe, x -> x.cut(-1, 1));
        refuses("cut to 4", INDEX, recipe, x -> x.cut(1, 4));
        refuses("cut from 2 to 1", INDEX, recipe, x -> x.cut(2, 1));
    }

    private static void registersAre0AtFirst() {
        Radixtape x = new Radixtape();
        for (int register = 0; register <= 3; register++) {
            dueNumber("register " + register, x, register, 0);
            due("write of register " + register, x.write(register, 10), 1);
        }
        dueText("what is written", x, "0000");
    }

    private static void sizeBelow2ToThe800() {
        for (int sign = -1; sign <= 1; sign += 2) {
            BigInteger greatest = GREATEST.multiply(BigInteger.valueOf(sign));
            BigInteger limit = LIMIT.multiply(BigInteger.valueOf(sign));
            readAtTheLimit(greatest, limit);
            heardAtTheLimit(greatest, sign);
            countedAtTheLimit(greatest, sign);
        }
    }

    private static void readAtTheLimit(BigInteger greatest, BigInteger limit) {
        for (int base = 2; base <= 36; base++) {
            int known = base;
            Radixtape x = tape(greatest.toString(base));
            due("read of the greatest in " + base, x.read(0, base), greatest.signum());
            dueNumber("the greatest that is read in " + base, x, 0, greatest);
            x.change(base, 38 - base);
            dueText("the greatest changed from " + base, x, greatest.toString(38 - base));
            Recipe large = () -> tape(limit.toString(known));
            refuses("read of the limit in " + base, STATE, large, y -> y.read(0, known));
            refuses("change of the limit in " + base, STATE, large, y -> y.change(known, 10));
        }
    }

    /** What is written as 1 with 200 digits 0 behind is 2 to the power 800 in the base 16. */
    private static void heardAtTheLimit(BigInteger greatest, int sign) {
        Radixtape x = withRegister(0, greatest);
        due("hear of the greatest", x.hear(0, 36, 36), sign);
        dueNumber("the greatest that is heard", x, 0, greatest);
        BigInteger tenth = BigInteger.TEN.pow(200).multiply(BigInteger.valueOf(sign));
        refuses("hear of the limit", STATE, () -> withRegister(0, tenth), y -> y.hear(0, 10, 16));
        BigInteger less = tenth.subtract(BigInteger.valueOf(sign));
        Radixtape below = withRegister(0, less);
        due("hear of 200 digits 9", below.hear(0, 10, 16), sign);
        dueNumber("200 digits 9", below, 0, new BigInteger(less.toString(10), 16));
    }

    private static void countedAtTheLimit(BigInteger greatest, int sign) {
        BigInteger less = greatest.subtract(BigInteger.valueOf(sign));
        Recipe oneLess = () -> {
            Radixtape y = withRegister(1, less);
            y.set(0, sign);
            return y;
        };
        Recipe most = () -> {
            Radixtape y = withRegister(1, greatest);
            y.set(0, sign);
            return y;
        };
        List<NamedCall> calls = List.of(
                new NamedCall("add", y -> y.add(0, 1)),
                new NamedCall("multiply", y -> y.multiply(1, 1, sign)),
                new NamedCall("step", y -> y.step(1, 10, true)));
        for (NamedCall named : calls) {
            Radixtape x = oneLess.make();
            dueThrown(named.name() + " up to the greatest", thrownBy(x, named.call()), null);
            dueNumber(named.name() + " up to the greatest", x, 1, greatest);
            refuses(named.name() + " up to the limit", STATE, most, named.call());
        }
        BigInteger half = BigInteger.ONE.shiftLeft(799).multiply(BigInteger.valueOf(sign));
        refuses("add of the half to itself", STATE, () -> withRegister(1, half), y -> y.add(1, 1));
        refuses("multiply of the half by 2", STATE, () -> withRegister(1, half), y -> y.multiply(1, 2, 0));
        refuses("multiply of the half by -2", STATE, () -> withRegister(1, half), y -> y.multiply(1, -2, 0));
    }

    private static void otherNumbersRefused() {
        for (int power : new int[] {801, 831, 832, 833, 863, 864, 896, 1024, 1600, 1664, 2048, 3200, 4096, 6190}) {
            String text = BigInteger.ONE.shiftLeft(power).add(BigInteger.valueOf(5)).toString(36);
            refuses("read of 2 to the power " + power, STATE, () -> tape(text), x -> x.read(0, 36));
            refuses("change of 2 to the power " + power, STATE, () -> tape("-" + text), x -> x.change(36, 10));
        }
        refuses("read of 1200 digits z", STATE, () -> tape("z".repeat(1200)), x -> x.read(0, 36));
        for (BigInteger number : new BigInteger[] {GREATEST, GREATEST.negate()}) {
            Recipe recipe = () -> withRegister(0, number);
            refuses("hear in 36 what is told in 2", STATE, recipe, x -> x.hear(0, 2, 36));
            refuses("hear in 11 what is told in 10", STATE, recipe, x -> x.hear(0, 10, 11));
            refuses("add to itself", STATE, recipe, x -> x.add(0, 0));
            refuses("multiply by the least int", STATE, recipe, x -> x.multiply(0, Integer.MIN_VALUE, 0));
            refuses("multiply by the greatest int", STATE, recipe,
                    x -> x.multiply(0, Integer.MAX_VALUE, Integer.MIN_VALUE));
            refuses("step above", STATE, recipe, x -> x.step(0, 36, true));
        }
    }

    private static int valueOf(int code) {
        return code < 128 ? Character.digit(code, 36) : -1;
    }

    private static void digitsOfABase() {
        for (int base = 2; base <= 36; base++) {
            for (int code = 32; code <= 126; code++) {
                int value = valueOf(code);
                boolean isDigit = value >= 0 && value < base;
                String what = "sign " + code + " in " + base + ": ";
                Radixtape x = tape(String.valueOf((char) code));
                due(what + "isNumber", x.isNumber(base), isDigit);
                dueReal(what + "digitShare", x.digitShare(base), isDigit ? 1.0f : 0.0f);
                due(what + "leastBase", x.leastBase(), value < 0 ? Radixtape.NONE : Math.max(2, value + 1));
                int known = base;
                dueThrown(what + "read", thrownBy(x, y -> y.read(0, known)), isDigit ? null : FORMAT);
                due(what + "the number", x.low(0), isDigit ? value : 0);
            }
        }
    }

    private static void capitalIsTheSameDigit() {
        for (int value = 10; value < 36; value++) {
            String small = String.valueOf((char) ('a' + value - 10));
            String capital = String.valueOf((char) ('A' + value - 10));
            for (int base = value + 1; base <= 36; base++) {
                Radixtape x = tape(small + capital + "0" + capital + small);
                due("read of mixed letters", x.read(2, base), 1);
                dueNumber("mixed letters", x, 2, new BigInteger(small + small + "0" + small + small, base));
                dueReal("share of mixed letters", x.digitShare(base), 1.0f);
                due("change of mixed letters", x.change(base, base), 5);
                dueText("changed mixed letters", x, small + small + "0" + small + small);
            }
            due("leastBase of a capital", tape(capital).leastBase(), value + 1);
            due("a capital is no digit of its value as base", tape(capital).isNumber(value), false);
        }
    }

    // ---- what is refused

    private static void firstListedIsThrown() {
        Recipe full = () -> tape("z".repeat(1200));
        refuses("type of a bad byte on a full tape", ARGUMENT, full, x -> x.type(0x61611F61L));
        refuses("setSign of no sign to no sign", INDEX, full, x -> x.setSign(1200, 127));
        refuses("read of register 4 in base 1", INDEX, full, x -> x.read(4, 1));
        refuses("read of register 4, too large", INDEX, full, x -> x.read(4, 36));
        refuses("read in base 37, too large", FORMAT, full, x -> x.read(0, 37));
        refuses("read of too many digits of another base", FORMAT, full, x -> x.read(0, 35));
        Recipe badEnd = () -> tape("1".repeat(1199) + "2");
        refuses("read of what is large ahead of a bad end", FORMAT, badEnd, x -> x.read(0, 2));
        refuses("change of what is large ahead of a bad end", FORMAT, badEnd, x -> x.change(2, 2));
        refuses("change in base 37, too large", FORMAT, full, x -> x.change(37, 37));
        refuses("write of register 4 on a full tape", INDEX, full, x -> x.write(4, 10));
        Recipe greatest = () -> withRegister(0, GREATEST);
        refuses("hear of register -1 in base 1", INDEX, greatest, x -> x.hear(-1, 10, 1));
        refuses("hear in base 37, too large", FORMAT, greatest, x -> x.hear(0, 2, 37));
        refuses("hear of no number, long enough to be too large", FORMAT, greatest, x -> x.hear(0, 10, 9));
        stepsFirstListed(greatest);
        questionsFirstListed(greatest);
    }

    private static void stepsFirstListed(Recipe greatest) {
        refuses("step of register 4 in base 1", INDEX, greatest, x -> x.step(4, 1, true));
        refuses("step of the greatest in base 37", ARGUMENT, greatest, x -> x.step(0, 37, true));
        refuses("step below 0 in base 1", ARGUMENT, greatest, x -> x.step(1, 1, false));
    }

    private static void questionsFirstListed(Recipe recipe) {
        refuses("digits of register 4 in base 1", INDEX, recipe, x -> x.digits(4, 1));
        refuses("digitAt of register 4 in base 1", INDEX, recipe, x -> x.digitAt(4, 1, -1));
        refuses("digitAt of register 4, digit -1", INDEX, recipe, x -> x.digitAt(4, 10, -1));
        refuses("digitAt in base 37, digit -1", ARGUMENT, recipe, x -> x.digitAt(0, 37, -1));
        refuses("digitAt in base 1, digit 800", ARGUMENT, recipe, x -> x.digitAt(0, 1, 800));
        refuses("sumOfDigits of register -1 in base 37", INDEX, recipe, x -> x.sumOfDigits(-1, 37));
        refuses("isMirrored of register 4 in base 0", INDEX, recipe, x -> x.isMirrored(4, 0));
        refuses("meanDigit of register -1 in base 1", INDEX, recipe, x -> x.meanDigit(-1, 1));
    }

    /** An object with 25 changes of all sorts behind it, so that one more would push the oldest out. */
    private static Radixtape busy(String text, long number) {
        Radixtape x = new Radixtape();
        for (int i = 0; i < 12; i++) {
            x.set(i % 4, 1000L * i - 5000);
            x.type('a' + i);
        }
        x.wipe();
        x.set(0, number);
        typeText(x, text);
        return x;
    }

    private static void throwingChangesNothing() {
        String[] texts = {"", "-", "zz", "z".repeat(1200)};
        for (String text : texts) {
            for (long number : new long[] {0, -35}) {
                Recipe much = () -> busy(text, number);
                Recipe little = () -> {
                    Radixtape x = tape(text);
                    x.set(0, number);
                    return x;
                };
                for (NamedCall named : refusedCalls()) {
                    leavesIfThrowing(named, much);
                    leavesIfThrowing(named, little);
                }
            }
        }
        Recipe greatest = () -> withRegister(0, GREATEST);
        refuses("add of too much", STATE, greatest, x -> x.add(0, 0));
        refuses("multiply by too much", STATE, greatest, x -> x.multiply(0, 3, 3));
        refuses("hear of too much", STATE, greatest, x -> x.hear(0, 35, 36));
        refuses("step of the greatest", STATE, greatest, x -> x.step(0, 7, true));
        refuses("undo of nothing", ELEMENT, Radixtape::new, Radixtape::undo);
    }

    /** Which of them throw depends on the object; those that do must leave all as it was. */
    private static void leavesIfThrowing(NamedCall named, Recipe recipe) {
        Radixtape called = recipe.make();
        if (thrownBy(called, named.call()) != null) {
            dueString(named.name() + " leaves what", historyOf(called), historyOf(recipe.make()));
        }
    }

    private static List<NamedCall> refusedCalls() {
        List<NamedCall> calls = new ArrayList<>();
        calls.add(new NamedCall("type of a bad byte", x -> x.type(0x6162637F)));
        calls.add(new NamedCall("type of one sign", x -> x.type('!')));
        calls.add(new NamedCall("cut from -1", x -> x.cut(-1, 0)));
        calls.add(new NamedCall("cut to behind", x -> x.cut(0, 1201)));
        calls.add(new NamedCall("cut backwards", x -> x.cut(1, 0)));
        calls.add(new NamedCall("setSign at -1", x -> x.setSign(-1, 'b')));
        calls.add(new NamedCall("setSign to 31", x -> x.setSign(0, 31)));
        calls.add(new NamedCall("read in 36", x -> x.read(0, 36)));
        calls.add(new NamedCall("read in 35", x -> x.read(0, 35)));
        calls.add(new NamedCall("read in 37", x -> x.read(0, 37)));
        calls.add(new NamedCall("write", x -> x.write(0, 10)));
        calls.add(new NamedCall("change of 36", x -> x.change(36, 2)));
        calls.add(new NamedCall("change of 35", x -> x.change(35, 2)));
        calls.add(new NamedCall("change of 1", x -> x.change(1, 10)));
        calls.add(new NamedCall("hear in 2", x -> x.hear(0, 10, 2)));
        calls.add(new NamedCall("hear in 1", x -> x.hear(0, 10, 1)));
        calls.add(new NamedCall("step less", x -> x.step(0, 36, false)));
        calls.add(new NamedCall("step more", x -> x.step(0, 36, true)));
        calls.add(new NamedCall("step in 1", x -> x.step(0, 1, true)));
        calls.add(new NamedCall("signAt(0)", x -> x.signAt(0)));
        calls.add(new NamedCall("digits in 37", x -> x.digits(0, 37)));
        calls.add(new NamedCall("digitAt in 1", x -> x.digitAt(0, 1, 0)));
        calls.add(new NamedCall("digitAt 9", x -> x.digitAt(0, 10, 9)));
        calls.add(new NamedCall("sumOfDigits in 1", x -> x.sumOfDigits(0, 1)));
        calls.add(new NamedCall("isMirrored in 1", x -> x.isMirrored(0, 1)));
        calls.add(new NamedCall("meanDigit in 1", x -> x.meanDigit(0, 1)));
        calls.add(new NamedCall("digitShare in 1", x -> x.digitShare(1)));
        for (NamedRegisterCall named : registerCalls()) {
            calls.add(new NamedCall(named.name() + " of register 4", x -> named.call().on(x, 4)));
        }
        return calls;
    }

    // ---- reading and writing

    private static void readInBases2To36() {
        for (int base = 2; base <= 36; base++) {
            Radixtape x = tape("-10");
            due("isNumber in " + base, x.isNumber(base), true);
            due("read in " + base, x.read(0, base), -1);
            dueNumber("what is read in " + base, x, 0, -base);
            due("change from " + base, tape("-10").change(base, 10), base < 10 ? 2 : 3);
            Radixtape heard = withRegister(0, -10);
            due("hear in " + base, heard.hear(0, 10, base), -1);
            dueNumber("what is heard in " + base, heard, 0, -base);
        }
        for (int base : NO_BASES) {
            // In a base 1 the digits 0 could pass for a number.
            for (String text : new String[] {"-10", "0", "+00", "z"}) {
                Recipe recipe = () -> tape(text);
                String what = " of " + text + " in " + base;
                due("isNumber" + what, recipe.make().isNumber(base), false);
                refuses("read" + what, FORMAT, recipe, x -> x.read(0, base));
                refuses("change" + what, FORMAT, recipe, x -> x.change(base, 10));
            }
            refuses("hear of 0 in " + base, FORMAT, Radixtape::new, x -> x.hear(0, 10, base));
            refuses("hear of -10 in " + base, FORMAT, () -> withRegister(0, -10), x -> x.hear(0, 10, base));
        }
    }

    private static void formOfANumber() {
        String[] good = {"1", "+1", "-1", "0", "+0", "-0", "000", "-007", "zZ", "+Az", "9".repeat(150), "0".repeat(1200)};
        for (String text : good) {
            BigInteger number = new BigInteger(text, 36);
            Radixtape x = tape(text);
            due("isNumber of " + text, x.isNumber(36), true);
            due("read of " + text, x.read(0, 36), number.signum());
            dueNumber("what is read of " + text, x, 0, number);
            due("change of " + text, x.change(36, 36), number.toString(36).length());
        }
        String[] bad = {"", "+", "-", "++1", "--1", "+-1", "-+1", "1+", "1-", "1+1", " 1", "1 ", "- 1", "1 1", "1_0",
            "1.", ".1", "1,0", "#1", "0-", "+ ", "- ", "/", ":", "@", "[", "`", "{", "~", "(1)", "1".repeat(1199) + " "};
        for (String text : bad) {
            Recipe recipe = () -> tape(text);
            due("isNumber of " + text, recipe.make().isNumber(36), false);
            due("leastBase of " + text, recipe.make().leastBase(), Radixtape.NONE);
            refuses("read of " + text, FORMAT, recipe, x -> x.read(0, 36));
            refuses("change of " + text, FORMAT, recipe, x -> x.change(36, 10));
        }
    }

    private static void smallLetters() {
        for (int value = 10; value < 36; value++) {
            String small = String.valueOf((char) ('a' + value - 10));
            for (int base = value + 1; base <= 36; base++) {
                Radixtape x = withRegister(0, (long) value * base + value);
                due("write", x.write(0, base), 2);
                dueText("written digits of " + value + " in " + base, x, small + small);
                Radixtape y = tape(small.toUpperCase());
                y.change(base, base);
                dueText("changed capital", y, small);
            }
        }
    }

    private static void noZerosAhead() {
        for (int base = 2; base <= 36; base++) {
            for (int power = 0; power <= 150; power++) {
                BigInteger number = BigInteger.valueOf(base).pow(power);
                String text = "1" + "0".repeat(power);
                Radixtape x = tape("0".repeat(9) + text);
                x.read(0, base);
                x.change(base, base);
                dueText("changed with digits 0 ahead", x, text);
                x.wipe();
                x.write(0, base);
                dueText("written power of " + base, x, text);
                x.multiply(0, 1, -1);
                x.wipe();
                x.write(0, base);
                dueText("written, one less than a power of " + base, x,
                        number.subtract(BigInteger.ONE).toString(base));
            }
        }
        Radixtape zero = tape("-0000000");
        due("change of 0", zero.change(10, 36), 1);
        dueText("changed 0", zero, "0");
    }

    private static void minusIfBelow0() {
        long[] numbers = {-1, 0, 1, Long.MIN_VALUE, Long.MAX_VALUE};
        for (long number : numbers) {
            for (int base = 2; base <= 36; base++) {
                Radixtape x = withRegister(1, number);
                x.write(1, base);
                dueText("written in " + base, x, Long.toString(number, base));
            }
        }
        Radixtape turned = withRegister(0, 0);
        turned.negate(0);
        turned.write(0, 10);
        dueText("the opposite of 0", turned, "0");
        Radixtape plus = tape("+5");
        plus.change(10, 10);
        dueText("a plus is not written", plus, "5");
    }

    private static void otherBaseAsInBase10() {
        for (BigInteger number : new BigInteger[] {BigInteger.ZERO, BigInteger.valueOf(-255), GREATEST}) {
            String text = number.toString(10);
            for (int base : NO_BASES) {
                Radixtape x = withRegister(0, number);
                due("write in " + base, x.write(0, base), text.length());
                dueText("written in " + base, x, text);
                Radixtape changed = tape(number.toString(36));
                due("change to " + base, changed.change(36, base), text.length());
                dueText("changed to " + base, changed, text);
                Radixtape heard = withRegister(0, number);
                due("hear of what is told in " + base, heard.hear(0, base, 10), number.signum());
                dueNumber("heard of what is told in " + base, heard, 0, number);
            }
        }
        Radixtape sixteen = withRegister(0, -255);
        sixteen.hear(0, 37, 16);
        dueNumber("told in 37, heard in 16", sixteen, 0, -0x255);
    }

    private static void minusIsNoDigit() {
        long[] sizes = {1, 7, 10, 121, 122, 1000001, Long.MAX_VALUE};
        for (long size : sizes) {
            for (int base = 2; base <= 36; base++) {
                int known = base;
                Radixtape below = withRegister(0, -size);
                Radixtape above = withRegister(0, size);
                int count = Long.toString(size, base).length();
                String what = " of -" + size + " in " + base;
                due("digits" + what, below.digits(0, base), count);
                refuses("digitAt behind" + what, ELEMENT, () -> withRegister(0, -size), x -> x.digitAt(0, known, count));
                due("highest digit" + what, below.digitAt(0, base, count - 1), above.digitAt(0, base, count - 1));
                due("sumOfDigits" + what, below.sumOfDigits(0, base), above.sumOfDigits(0, base));
                due("isMirrored" + what, below.isMirrored(0, base), above.isMirrored(0, base));
                dueReal("meanDigit" + what, below.meanDigit(0, base), above.meanDigit(0, base));
            }
        }
    }

    private static void digitsNumberedFromTheLast() {
        for (BigInteger number : new BigInteger[] {BigInteger.valueOf(-9876543210L), GREATEST.shiftRight(7)}) {
            for (int base = 2; base <= 36; base++) {
                Radixtape x = withRegister(1, number);
                x.write(1, base);
                int last = x.length() - 1;
                for (int i = 0; i < x.digits(1, base); i++) {
                    due("digit " + i + " in " + base, x.digitAt(1, base, i), valueOf(x.signAt(last - i)));
                }
            }
        }
    }

    // ---- undoing

    /** Changes of what changeable() makes. */
    private static List<NamedCall> changes() {
        return List.of(
                new NamedCall("type", x -> x.type('7')),
                new NamedCall("wipe", Radixtape::wipe),
                new NamedCall("reverse", Radixtape::reverse),
                new NamedCall("cut", x -> x.cut(0, 2)),
                new NamedCall("setSign", x -> x.setSign(1, '9')),
                new NamedCall("capitals", x -> x.capitals(true)),
                new NamedCall("read", x -> x.read(0, 16)),
                new NamedCall("write", x -> x.write(0, 16)),
                new NamedCall("change", x -> x.change(16, 2)),
                new NamedCall("hear", x -> x.hear(0, 2, 10)),
                new NamedCall("set", x -> x.set(0, 77)),
                new NamedCall("add", x -> x.add(0, 1)),
                new NamedCall("multiply", x -> x.multiply(0, 3, 4)),
                new NamedCall("negate", x -> x.negate(0)),
                new NamedCall("step", x -> x.step(0, 36, true)));
    }

    private static Radixtape changeable() {
        Radixtape x = tape("-1af");
        x.set(0, -5);
        return x;
    }

    private static void eachChangeIsOne() {
        String before = stateOf(changeable());
        for (NamedCall named : changes()) {
            Radixtape x = changeable();
            named.call().on(x);
            due(named.name() + " changes", stateOf(x).equals(before), false);
            due("undo behind " + named.name(), x.undo(), 2);
            dueString("behind the undone " + named.name() + " the state", stateOf(x), before);
            due("undo once more behind " + named.name(), x.undo(), 1);
        }
    }

    /** Calls that leave what neutral() makes as it is. */
    private static List<NamedCall> changesOfNothing() {
        return List.of(
                new NamedCall("type", x -> x.type(0)),
                new NamedCall("reverse", Radixtape::reverse),
                new NamedCall("cut", x -> x.cut(1, 1)),
                new NamedCall("cut at the end", x -> x.cut(3, 3)),
                new NamedCall("setSign", x -> x.setSign(1, '2')),
                new NamedCall("capitals", x -> x.capitals(true)),
                new NamedCall("small letters", x -> x.capitals(false)),
                new NamedCall("read", x -> x.read(0, 10)),
                new NamedCall("change", x -> x.change(10, 10)),
                new NamedCall("hear", x -> x.hear(0, 7, 7)),
                new NamedCall("set", x -> x.set(0, 121)),
                new NamedCall("add of 0", x -> x.add(1, 0)),
                new NamedCall("add of 0 to itself", x -> x.add(1, 1)),
                new NamedCall("multiply", x -> x.multiply(0, 1, 0)),
                new NamedCall("negate of 0", x -> x.negate(1)));
    }

    private static Radixtape neutral() {
        Radixtape x = tape("121");
        x.read(0, 10);
        return x;
    }

    private static void changeOfNothingIsOne() {
        for (NamedCall named : changesOfNothing()) {
            countsThoughNothingChanges(named, TermsTest::neutral, 2);
        }
        countsThoughNothingChanges(new NamedCall("wipe of nothing", Radixtape::wipe), Radixtape::new, 0);
        countsThoughNothingChanges(new NamedCall("reverse of nothing", Radixtape::reverse), Radixtape::new, 0);
    }

    private static void countsThoughNothingChanges(NamedCall named, Recipe recipe, int changesBefore) {
        Radixtape x = recipe.make();
        String before = stateOf(x);
        named.call().on(x);
        dueString(named.name() + " leaves the state, which", stateOf(x), before);
        due("undo behind " + named.name(), x.undo(), changesBefore);
        dueString("behind the undone " + named.name() + " the state", stateOf(x), before);
        for (int i = 0; i < 20; i++) {
            named.call().on(x);
        }
        due("what can be undone behind 20 times " + named.name(), undoableOf(x), 20);
        dueString("as older changes are out of reach, the state", stateOf(x), before);
    }

    private static void latest20() {
        for (int changes = 0; changes <= 65; changes++) {
            Radixtape x = new Radixtape();
            for (int i = 1; i <= changes; i++) {
                x.set(0, i);
            }
            int undoable = Math.min(changes, 20);
            for (int i = 1; i <= undoable; i++) {
                due("undo " + i + " of " + changes + " changes", x.undo(), undoable - i);
                dueNumber("the number behind it", x, 0, changes - i);
            }
            refused("one undo more behind " + changes + " changes", ELEMENT, x, x::undo);
            x.set(0, -1);
            due("undo of a change behind all that", x.undo(), 0);
            dueNumber("the number behind that", x, 0, changes - undoable);
        }
        undoneInBetween();
    }

    /** In each round 7 changes and 3 undoings, so that the latest 20 are never the last 20 that were made. */
    private static void undoneInBetween() {
        Radixtape x = new Radixtape();
        List<Long> expected = new ArrayList<>();
        expected.add(0L);
        long next = 1;
        for (int round = 0; round < 9; round++) {
            for (int i = 0; i < 7; i++) {
                x.set(2, next);
                expected.add(next);
                next++;
            }
            for (int i = 0; i < 3; i++) {
                x.undo();
                expected.remove(expected.size() - 1);
                dueNumber("an undoing in round " + round, x, 2, expected.get(expected.size() - 1));
            }
        }
        // The three that were undone last have made no room for older ones.
        for (int i = 16; i >= 0; i--) {
            due("undo at the end", x.undo(), i);
            expected.remove(expected.size() - 1);
            dueNumber("the number at the end", x, 2, expected.get(expected.size() - 1));
        }
        refused("undo of an older one", ELEMENT, x, x::undo);
    }

    private static void asTheyWereAhead() {
        Radixtape x = new Radixtape();
        BigInteger[] numbers = {GREATEST, GREATEST.negate(), BigInteger.ZERO, BigInteger.valueOf(Long.MIN_VALUE)};
        for (int register = 0; register < 4; register++) {
            putRegister(x, register, numbers[register]);
        }
        typeText(x, "0123456789 ~".repeat(100));
        List<String> states = new ArrayList<>();
        for (int i = 0; i < 20; i++) {
            states.add(stateOf(x));
            changeSomehow(x, i);
        }
        for (int i = 19; i >= 0; i--) {
            due("undo", x.undo(), i);
            dueString("the state ahead of change " + i, stateOf(x), states.get(i));
        }
    }

    private static void changeSomehow(Radixtape x, int way) {
        int register = (way + way / 8) % 4;
        switch (way % 8) {
            case 0 -> x.set(register, way);
            case 1 -> x.cut(0, x.length() / 2);
            case 2 -> x.negate(register);
            case 3 -> x.write(register, 36);
            case 4 -> x.type('!');
            case 5 -> x.multiply(register, 0, way);
            case 6 -> x.reverse();
            default -> x.wipe();
        }
    }

    private static void undoIsNoChange() {
        Radixtape x = new Radixtape();
        for (int i = 1; i <= 5; i++) {
            x.set(0, i);
        }
        for (int i = 4; i >= 0; i--) {
            due("undo", x.undo(), i);
            dueNumber("no undoing is undone", x, 0, i);
        }
        refused("undo of nothing", ELEMENT, x, x::undo);
    }

    private static void questionsAreNoChanges() {
        List<NamedCall> questions = List.of(
                new NamedCall("length", Radixtape::length),
                new NamedCall("signAt", x -> x.signAt(1)),
                new NamedCall("isNumber", x -> x.isNumber(16)),
                new NamedCall("leastBase", Radixtape::leastBase),
                new NamedCall("compare", x -> x.compare(0, 1)),
                new NamedCall("signum", x -> x.signum(0)),
                new NamedCall("digits", x -> x.digits(0, 2)),
                new NamedCall("digitAt", x -> x.digitAt(0, 2, 1)),
                new NamedCall("sumOfDigits", x -> x.sumOfDigits(0, 2)),
                new NamedCall("isMirrored", x -> x.isMirrored(0, 2)),
                new NamedCall("low", x -> x.low(0)),
                new NamedCall("meanDigit", x -> x.meanDigit(0, 2)),
                new NamedCall("digitShare", x -> x.digitShare(16)),
                new NamedCall("errors", Radixtape::errors));
        for (NamedCall question : questions) {
            Radixtape asked = changeable();
            for (int i = 0; i < 21; i++) {
                question.call().on(asked);
            }
            dueString(question.name() + " leaves what", historyOf(asked), historyOf(changeable()));
        }
    }
}
