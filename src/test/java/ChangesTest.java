import java.math.BigInteger;

/** Each sentence of the document's promises 1 to 16 (a new object, and the changes) has a test of its own here. */
public final class ChangesTest extends Sentences {
    private static final String TOO_LONG = "Throws `IllegalStateException` if the tape would be longer than 1200 signs";
    private static final String NO_NUMBER =
            "Throws `NumberFormatException` if base is not 2 to 36, or the tape is no number in this base";

    public static void main(String[] args) {
        promises1To4();
        promises5To7();
        promises8And9();
        promises10And11();
        promises12And13();
        promises14To16();
        endWith(args, promises(1, 16));
    }

    private static void promises1To4() {
        sentence(1, "Creates an empty tape, and registers with the number 0.", ChangesTest::newObject);

        sentence(2, "Puts signs behind the tape", ChangesTest::typedBehind);
        sentence(2, "the bytes of a number, the highest one first", ChangesTest::typedHighestFirst);
        sentence(2, "without those that are 0", ChangesTest::typedWithout0);
        sentence(2, "Returns the length of the tape.", ChangesTest::typedLength);
        sentence(2, "Throws `IllegalArgumentException` if a byte is neither 0 nor 32 to 126", ChangesTest::typedBadByte);
        sentence(2, TOO_LONG, ChangesTest::typedTooLong);

        sentence(3, "Empties the tape.", ChangesTest::wiped);
        sentence(3, "Returns its length before.", ChangesTest::wipedLength);

        sentence(4, "Turns the tape round: its last sign comes first, and so on.", ChangesTest::turnedRound);
        sentence(4, "Returns its length.", ChangesTest::turnedLength);
    }

    private static void promises5To7() {
        sentence(5, "Takes signs out of the tape.", ChangesTest::cutOut);
        sentence(5, "- `from`: the number of the first one", ChangesTest::cutFrom);
        sentence(5, "- `to`: the number of the one behind the last one", ChangesTest::cutTo);
        sentence(5, "Returns the length of the tape.", ChangesTest::cutLength);
        sentence(5, "Throws `IndexOutOfBoundsException` if from is below 0", ChangesTest::cutFromBelow0);
        sentence(5, "to is above the length of the tape", ChangesTest::cutToAboveLength);
        sentence(5, "or from is greater than to", ChangesTest::cutFromAboveTo);

        sentence(6, "Puts another sign in place of one.", ChangesTest::signPut);
        sentence(6, "- `sign`: 32 to 126", ChangesTest::signOfEachCode);
        sentence(6, "Returns the sign that was there.", ChangesTest::signThatWasThere);
        sentence(6, "Throws `IndexOutOfBoundsException` if there is no such sign", ChangesTest::signPutNowhere);
        sentence(6, "Throws `IllegalArgumentException` if sign is out of range", ChangesTest::signOutOfRange);

        sentence(7, "Makes the letters a to z of the tape capitals", ChangesTest::madeCapitals);
        sentence(7, "or the capitals small letters.", ChangesTest::madeSmall);
        sentence(7, "Returns how many signs became other ones.", ChangesTest::lettersThatBecameOthers);
    }

    private static void promises8And9() {
        sentence(8, "Reads the tape into a register.", ChangesTest::readInto);
        sentence(8, "The tape stays.", ChangesTest::readTapeStays);
        sentence(8, "Returns the signum of the number: -1, 0 or 1.", ChangesTest::readSignum);
        sentence(8, NO_REGISTER, ChangesTest::readNoRegister);
        sentence(8, NO_NUMBER, ChangesTest::readNoNumber);
        sentence(8, "Throws `IllegalStateException` if the number is refused by its size", ChangesTest::readTooLarge);

        sentence(9, "Writes a register behind the tape.", ChangesTest::writtenBehind);
        sentence(9, "- `base`: the base, any number", ChangesTest::writtenInAnyBase);
        sentence(9, "Returns how many signs were written.", ChangesTest::writtenSigns);
        sentence(9, NO_REGISTER, ChangesTest::writeNoRegister);
        sentence(9, TOO_LONG, ChangesTest::writtenTooLong);
    }

    private static void promises10And11() {
        sentence(10, "Makes the tape, which is a number in a base, the same number as it is written in another base.",
                ChangesTest::changed);
        sentence(10, "- `other`: the base in which it is written, any number", ChangesTest::changedToAnyBase);
        sentence(10, "Returns the length of the tape then.", ChangesTest::changedLength);
        sentence(10, NO_NUMBER, ChangesTest::changeNoNumber);
        sentence(10, "Throws `IllegalStateException` if the number is refused by its size (as it would be by a register)",
                ChangesTest::changeTooLarge);

        sentence(11, "Makes the number of a register what is read when it is written in a base, and this is read in another base.",
                ChangesTest::heard);
        sentence(11, "- `told`: the base in which it is written, any number", ChangesTest::heardToldInAnyBase);
        sentence(11, "Returns the signum of the number.", ChangesTest::heardSignum);
        sentence(11, NO_REGISTER, ChangesTest::hearNoRegister);
        sentence(11, "Throws `NumberFormatException` if heard is not 2 to 36", ChangesTest::hearNoBase);
        sentence(11, "or what was written is no number in it", ChangesTest::hearNoNumber);
        sentence(11, "Throws `IllegalStateException` if the number is refused by its size", ChangesTest::hearTooLarge);
    }

    private static void promises12And13() {
        sentence(12, "Sets a register.", ChangesTest::set);
        sentence(12, "Returns the signum of the number that it had.", ChangesTest::setSignum);
        sentence(12, NO_REGISTER, ChangesTest::setNoRegister);

        sentence(13, "Adds a register to another one", ChangesTest::added);
        sentence(13, "(which can be the same)", ChangesTest::addedToItself);
        sentence(13, "Returns the signum of the sum.", ChangesTest::addedSignum);
        sentence(13, NO_REGISTER + ", of either", ChangesTest::addNoRegister);
        sentence(13, "Throws `IllegalStateException` if the sum is refused by its size", ChangesTest::addedTooMuch);
    }

    private static void promises14To16() {
        sentence(14, "Multiplies a register by a number, and adds another one.", ChangesTest::multiplied);
        sentence(14, "- `by`: the number by which it is multiplied", ChangesTest::multipliedBySpecial);
        sentence(14, "- `more`: the number that is added then", ChangesTest::multipliedAddedThen);
        sentence(14, "Returns the signum of the result.", ChangesTest::multipliedSignum);
        sentence(14, NO_REGISTER, ChangesTest::multiplyNoRegister);
        sentence(14, "Throws `IllegalStateException` if the result is refused by its size", ChangesTest::multipliedTooMuch);

        sentence(15, "Makes a register its opposite.", ChangesTest::negated);
        sentence(15, "Returns the signum of it.", ChangesTest::negatedSignum);
        sentence(15, NO_REGISTER, ChangesTest::negateNoRegister);

        sentence(16, "Makes the size of a register one more, or one less", ChangesTest::stepped);
        sentence(16, "if it has as many digits in a base then as ahead", ChangesTest::steppedAmongSameCount);
        sentence(16, "the sign stays", ChangesTest::steppedSignStays);
        sentence(16, "(0 becomes 1)", ChangesTest::steppedFrom0);
        sentence(16, "- `base`: 2 to 36", ChangesTest::steppedInEachBase);
        sentence(16, "Returns how many digits it has.", ChangesTest::steppedDigits);
        sentence(16, NO_REGISTER, ChangesTest::stepNoRegister);
        sentence(16, "Throws `IllegalArgumentException` if base is out of range", ChangesTest::stepNoBase);
        sentence(16, "Throws `IllegalStateException` if it would have another count of digits",
                ChangesTest::steppedToAnotherCount);
        sentence(16, "its size would be below 0", ChangesTest::steppedBelow0);
        sentence(16, "or it is refused by its size", ChangesTest::steppedTooMuch);
    }

    // ---- promise 1

    private static void newObject() {
        Radixtape x = new Radixtape();
        due("length", x.length(), 0);
        for (int register = 0; register <= 3; register++) {
            dueNumber("register " + register, x, register, 0);
        }
        refused("undo of nothing", ELEMENT, x, x::undo);
        Radixtape used = tape("abc");
        used.set(0, 9);
        due("length of an object that is made behind another one", new Radixtape().length(), 0);
        dueNumber("its register", new Radixtape(), 0, 0);
    }

    // ---- promise 2: type

    private static void typedBehind() {
        Radixtape x = tape("abc");
        x.type('d');
        x.type('e' << 8 | 'f');
        dueText("the tape", x, "abcdef");
    }

    private static void typedHighestFirst() {
        Radixtape x = new Radixtape();
        x.type(0x4142434445464748L);
        dueText("eight bytes", x, "ABCDEFGH");
        Radixtape edges = new Radixtape();
        edges.type(0x7E2020202020207EL);
        dueText("the greatest codes at the ends", edges, "~      ~");
    }

    private static void typedWithout0() {
        for (int kept = 0; kept < 256; kept++) {
            long signs = 0;
            StringBuilder want = new StringBuilder();
            for (int i = 7; i >= 0; i--) {
                boolean isKept = (kept >> i & 1) == 1;
                signs = signs << 8 | (isKept ? 'a' + i : 0);
                want.append(isKept ? String.valueOf((char) ('a' + i)) : "");
            }
            Radixtape x = tape("_");
            due("type of the bytes " + kept, x.type(signs), 1 + want.length());
            dueText("the tape", x, "_" + want);
        }
    }

    private static void typedLength() {
        Radixtape x = new Radixtape();
        due("type of nothing", x.type(0), 0);
        due("type of one", x.type(' '), 1);
        due("type of eight", x.type(0x4142434445464748L), 9);
        due("type of nothing behind nine", x.type(0), 9);
        due("type of nothing behind 1200", tape("a".repeat(1200)).type(0), 1200);
    }

    private static void typedBadByte() {
        for (int place = 0; place < 8; place++) {
            for (int code : new int[] {1, 9, 10, 31, 127, 128, 160, 191, 255}) {
                long alone = (long) code << 8 * place;
                long among = 0x4141414141414141L & ~(255L << 8 * place) | alone;
                String what = "type of byte " + code + " at " + place;
                refuses(what, ARGUMENT, () -> tape("abc"), x -> x.type(alone));
                refuses(what + " among others", ARGUMENT, () -> tape("abc"), x -> x.type(among));
            }
            for (int code : new int[] {0, 32, 126}) {
                long good = (long) code << 8 * place;
                due("type of byte " + code, tape("abc").type(good), code == 0 ? 3 : 4);
            }
        }
        refuses("type of -1", ARGUMENT, Radixtape::new, x -> x.type(-1));
        refuses("type of the least long", ARGUMENT, Radixtape::new, x -> x.type(Long.MIN_VALUE));
    }

    private static void typedTooLong() {
        for (int count = 1; count <= 8; count++) {
            long signs = 0x4242424242424242L >>> 64 - 8 * count;
            int fitting = 1200 - count;
            due("type of the last " + count, tape("a".repeat(fitting)).type(signs), 1200);
            refuses("type of " + count + " behind " + (fitting + 1), STATE, () -> tape("a".repeat(fitting + 1)),
                    x -> x.type(signs));
        }
        due("bytes that are 0 take no room", tape("a".repeat(1199)).type(0x4200000000000000L), 1200);
    }

    // ---- promise 3: wipe

    private static void wiped() {
        for (int count : new int[] {0, 1, 2, 1199, 1200}) {
            Radixtape x = tape("7".repeat(count));
            x.set(2, -3);
            x.wipe();
            due("length", x.length(), 0);
            dueThrown("signAt(0)", thrownBy(x, y -> y.signAt(0)), INDEX);
            dueNumber("the register stays", x, 2, -3);
            due("type behind it", x.type('b'), 1);
            dueText("the tape then", x, "b");
        }
    }

    private static void wipedLength() {
        for (int count : new int[] {0, 1, 2, 127, 128, 255, 256, 1199, 1200}) {
            Radixtape x = tape("7".repeat(count));
            due("wipe of " + count, x.wipe(), count);
            due("wipe once more", x.wipe(), 0);
        }
    }

    // ---- promise 4: reverse

    private static void turnedRound() {
        String text = "0123456789abcdefghijklmnopqrstuvwxyz !~+-".repeat(30).substring(0, 1200);
        for (int count : new int[] {0, 1, 2, 3, 4, 5, 1199, 1200}) {
            String part = text.substring(0, count);
            Radixtape x = tape(part);
            x.reverse();
            dueText("the tape of " + count, x, new StringBuilder(part).reverse().toString());
            x.reverse();
            dueText("turned twice", x, part);
        }
    }

    private static void turnedLength() {
        for (int count : new int[] {0, 1, 2, 3, 1199, 1200}) {
            Radixtape x = tape("a".repeat(count));
            due("reverse of " + count, x.reverse(), count);
            due("length then", x.length(), count);
        }
    }

    // ---- promise 5: cut

    private static void cutOut() {
        String text = "abcdefg";
        for (int from = 0; from <= 7; from++) {
            for (int to = from; to <= 7; to++) {
                Radixtape x = tape(text);
                x.cut(from, to);
                dueText("cut " + from + " to " + to, x, text.substring(0, from) + text.substring(to));
            }
        }
        Radixtape full = tape("x" + "a".repeat(1198) + "y");
        full.cut(1, 1199);
        dueText("a full tape cut in the middle", full, "xy");
    }

    private static void cutFrom() {
        Radixtape x = tape("abc");
        x.cut(0, 1);
        dueText("cut from 0", x, "bc");
        x.cut(1, 2);
        dueText("cut from 1", x, "b");
        due("cut from the end", x.cut(1, 1), 1);
    }

    private static void cutTo() {
        Radixtape x = tape("abc");
        x.cut(2, 3);
        dueText("cut to the length", x, "ab");
        x.cut(0, 0);
        dueText("cut to 0", x, "ab");
        x.cut(0, 2);
        dueText("cut of all", x, "");
        due("cut of nothing out of nothing", x.cut(0, 0), 0);
    }

    private static void cutLength() {
        due("cut of none", tape("abc").cut(1, 1), 3);
        due("cut of one", tape("abc").cut(1, 2), 2);
        due("cut of all", tape("abc").cut(0, 3), 0);
        due("cut of one out of 1200", tape("a".repeat(1200)).cut(1199, 1200), 1199);
        due("cut of 1200", tape("a".repeat(1200)).cut(0, 1200), 0);
    }

    private static void cutFromBelow0() {
        for (int from : new int[] {-1, -2, Integer.MIN_VALUE}) {
            for (int to : new int[] {-1, 0, 1, 3}) {
                refuses("cut " + from + " to " + to, INDEX, () -> tape("abc"), x -> x.cut(from, to));
            }
        }
        due("cut from 0", tape("abc").cut(0, 1), 2);
    }

    private static void cutToAboveLength() {
        for (int to : new int[] {4, 5, 1200, Integer.MAX_VALUE}) {
            for (int from : new int[] {0, 3, 4}) {
                refuses("cut " + from + " to " + to, INDEX, () -> tape("abc"), x -> x.cut(from, to));
            }
        }
        refuses("cut of a full tape to 1201", INDEX, () -> tape("a".repeat(1200)), x -> x.cut(0, 1201));
        refuses("cut of nothing to 1", INDEX, Radixtape::new, x -> x.cut(0, 1));
        refuses("cut of what was wiped", INDEX, () -> {
            Radixtape x = tape("abc");
            x.wipe();
            return x;
        }, x -> x.cut(0, 1));
        due("cut to the length", tape("abc").cut(1, 3), 1);
    }

    private static void cutFromAboveTo() {
        for (int to = 0; to < 3; to++) {
            int known = to;
            refuses("cut from one behind " + to, INDEX, () -> tape("abc"), x -> x.cut(known + 1, known));
            due("cut from " + to + " to itself", tape("abc").cut(to, to), 3);
        }
        refuses("cut from 4 to 3", INDEX, () -> tape("abc"), x -> x.cut(4, 3));
        refuses("cut far backwards", INDEX, () -> tape("abc"), x -> x.cut(Integer.MAX_VALUE, Integer.MIN_VALUE));
        refuses("cut from 1 to 0 of nothing", INDEX, Radixtape::new, x -> x.cut(1, 0));
    }

    // ---- promise 6: setSign

    private static void signPut() {
        for (int count : new int[] {1, 2, 3, 1200}) {
            for (int index : new int[] {0, count / 2, count - 1}) {
                String text = "a".repeat(count);
                Radixtape x = tape(text);
                x.setSign(index, 'Z');
                dueText("the tape", x, text.substring(0, index) + "Z" + text.substring(index + 1));
            }
        }
    }

    private static void signOfEachCode() {
        Radixtape x = tape("abc");
        int before = 'b';
        for (int sign = 32; sign <= 126; sign++) {
            due("setSign to " + sign, x.setSign(1, sign), before);
            dueText("the tape", x, "a" + (char) sign + "c");
            before = sign;
        }
    }

    private static void signThatWasThere() {
        Radixtape x = tape(" ~");
        due("setSign of a space", x.setSign(0, 'a'), 32);
        due("setSign of a tilde", x.setSign(1, 'b'), 126);
        due("setSign to the same", x.setSign(1, 'b'), 'b');
    }

    private static void signPutNowhere() {
        for (int index : new int[] {Integer.MIN_VALUE, -1, 3, 4, 1199, 1200, Integer.MAX_VALUE}) {
            refuses("setSign at " + index, INDEX, () -> tape("abc"), x -> x.setSign(index, 'd'));
            refuses("setSign at " + index + " to no sign", INDEX, () -> tape("abc"), x -> x.setSign(index, 31));
        }
        refuses("setSign at 1200 of a full tape", INDEX, () -> tape("a".repeat(1200)), x -> x.setSign(1200, 'b'));
        refuses("setSign on an empty tape", INDEX, Radixtape::new, x -> x.setSign(0, 'a'));
        due("setSign at the last", tape("abc").setSign(2, 'd'), 'c');
    }

    private static void signOutOfRange() {
        for (int sign : new int[] {Integer.MIN_VALUE, -65, -1, 0, 31, 127, 128, 256 + 65, 65536 + 65, Integer.MAX_VALUE}) {
            refuses("setSign to " + sign, ARGUMENT, () -> tape("abc"), x -> x.setSign(0, sign));
        }
    }

    // ---- promise 7: capitals

    private static String allSigns() {
        StringBuilder text = new StringBuilder();
        for (char sign = 32; sign <= 126; sign++) {
            text.append(sign);
        }
        return text.toString();
    }

    private static void madeCapitals() {
        Radixtape x = tape(allSigns());
        due("capitals of all signs", x.capitals(true), 26);
        dueText("the tape", x, allSigns().toUpperCase());
        Radixtape edges = tape("`az{@AZ[");
        due("capitals at the edges", edges.capitals(true), 2);
        dueText("the tape of the edges", edges, "`AZ{@AZ[");
        due("capitals of nothing", new Radixtape().capitals(true), 0);
    }

    private static void madeSmall() {
        Radixtape x = tape(allSigns());
        due("small letters of all signs", x.capitals(false), 26);
        dueText("the tape", x, allSigns().toLowerCase());
        Radixtape edges = tape("`az{@AZ[");
        due("small letters at the edges", edges.capitals(false), 2);
        dueText("the tape of the edges", edges, "`az{@az[");
        due("small letters of nothing", new Radixtape().capitals(false), 0);
    }

    private static void lettersThatBecameOthers() {
        Radixtape x = tape("aBcD9");
        due("capitals", x.capitals(true), 2);
        due("capitals once more", x.capitals(true), 0);
        due("small letters", x.capitals(false), 4);
        due("small letters once more", x.capitals(false), 0);
        due("capitals of a full tape", tape("z".repeat(1200)).capitals(true), 1200);
        due("small letters of no letters", tape("0189+-").capitals(false), 0);
    }

    // ---- promise 8: read

    private static void readInto() {
        for (int register = 0; register <= 3; register++) {
            for (int base = 2; base <= 36; base++) {
                BigInteger number = BigInteger.valueOf(-base).pow(register + 70).add(BigInteger.valueOf(base - 1));
                Radixtape x = tape(number.toString(base));
                x.set((register + 1) % 4, 55);
                x.set(register, Long.MAX_VALUE);
                x.read(register, base);
                dueNumber("what is read in " + base, x, register, number);
                dueNumber("the register beside", x, (register + 1) % 4, 55);
            }
        }
        Radixtape over = tape("5");
        putRegister(over, 0, GREATEST.negate());
        over.read(0, 10);
        dueNumber("what is read over the greatest", over, 0, 5);
        Radixtape last = tape("0".repeat(1199) + "1");
        last.read(0, 2);
        dueNumber("what is read of 1200 signs", last, 0, 1);
    }

    private static void readTapeStays() {
        for (String text : new String[] {"+00aF", "-0", "Zz", "0".repeat(1200)}) {
            Radixtape x = tape(text);
            x.read(1, 36);
            dueText("the tape", x, text);
        }
    }

    private static void readSignum() {
        String[] texts = {"-1", "-0", "-00", "0", "+0", "+00", "1", "+1", "-z", "z"};
        for (String text : texts) {
            Radixtape x = tape(text);
            int want = new BigInteger(text, 36).signum();
            due("read of " + text, x.read(0, 36), want);
            due("signum behind it", x.signum(0), want);
        }
        Radixtape high = tape("-1" + "0".repeat(799));
        due("read of a number whose lowest bits are 0", high.read(0, 2), -1);
    }

    private static void readNoRegister() {
        for (int register : NO_REGISTERS) {
            refuses("read into " + register, INDEX, () -> tape("12"), x -> x.read(register, 10));
            refuses("read of no number into " + register, INDEX, Radixtape::new, x -> x.read(register, 37));
        }
    }

    private static void readNoNumber() {
        for (int base : NO_BASES) {
            refuses("read of 1 in base " + base, FORMAT, () -> tape("1"), x -> x.read(0, base));
            refuses("read of -0 in base " + base, FORMAT, () -> tape("-0"), x -> x.read(0, base));
            refuses("read of nothing in base " + base, FORMAT, Radixtape::new, x -> x.read(0, base));
        }
        for (int base = 2; base <= 36; base++) {
            int known = base;
            String digit = base == 36 ? "{" : Integer.toString(base, 36);
            refuses("read of a digit " + base, FORMAT, () -> tape("1" + digit), x -> x.read(0, known));
            due("read of a digit one less", tape("-" + Integer.toString(base - 1, 36)).read(0, base), -1);
        }
        for (String text : new String[] {"", "+", "-", "+-1", "1+", " 1", "1 "}) {
            refuses("read of '" + text + "'", FORMAT, () -> tape(text), x -> x.read(0, 10));
        }
    }

    private static void readTooLarge() {
        for (int base = 2; base <= 36; base++) {
            int known = base;
            for (String sign : new String[] {"", "+", "-"}) {
                String text = sign + "000" + LIMIT.toString(base);
                refuses("read of the limit in " + base, STATE, () -> tape(text), x -> x.read(0, known));
                Radixtape x = tape(sign + "000" + GREATEST.toString(base));
                due("read of the greatest in " + base, x.read(0, base), sign.equals("-") ? -1 : 1);
                dueNumber("the greatest", x, 0, sign.equals("-") ? GREATEST.negate() : GREATEST);
            }
        }
    }

    // ---- promise 9: write

    private static void writtenBehind() {
        for (int register = 0; register <= 3; register++) {
            Radixtape x = tape("ab");
            x.set(register, -255);
            x.write(register, 16);
            x.write(register, 2);
            dueText("the tape", x, "ab-ff-11111111");
            dueNumber("the register stays", x, register, -255);
        }
    }

    private static void writtenInAnyBase() {
        for (int base = -300; base <= 300; base++) {
            Radixtape x = withRegister(0, -255);
            x.write(0, base);
            dueText("written in " + base, x, Integer.toString(-255, base < 2 || base > 36 ? 10 : base));
        }
        for (int base : new int[] {Integer.MIN_VALUE, Integer.MAX_VALUE}) {
            Radixtape x = withRegister(0, GREATEST);
            x.write(0, base);
            dueText("written in " + base, x, GREATEST.toString());
        }
    }

    private static void writtenSigns() {
        Radixtape x = tape("ab");
        due("write of 0", x.write(0, 2), 1);
        x.set(0, -255);
        due("write with a minus", x.write(0, 2), 9);
        due("write in base 99", x.write(0, 99), 4);
        due("length", x.length(), 2 + 1 + 9 + 4);
        due("write of the greatest", withRegister(0, GREATEST).write(0, 2), 800);
        due("write of the least", withRegister(0, GREATEST.negate()).write(0, 2), 801);
    }

    private static void writeNoRegister() {
        for (int register : NO_REGISTERS) {
            refuses("write of " + register, INDEX, () -> tape("12"), x -> x.write(register, 10));
            refuses("write of " + register + " on a full tape", INDEX, () -> tape("a".repeat(1200)),
                    x -> x.write(register, 10));
        }
    }

    private static void writtenTooLong() {
        for (String text : new String[] {"0", "-1", "100", "-99999999", "1".repeat(18)}) {
            int fitting = 1200 - text.length();
            for (int base : new int[] {10, 37}) {
                due("write to the brim", brimming(fitting, text).write(0, base), text.length());
                refuses("write of one too many", STATE, () -> brimming(fitting + 1, text), x -> x.write(0, base));
                refuses("write on a full tape", STATE, () -> brimming(1200, text), x -> x.write(0, base));
            }
        }
    }

    private static Radixtape brimming(int count, String number) {
        Radixtape x = tape("a".repeat(count));
        x.set(0, Long.parseLong(number));
        return x;
    }

    // ---- promise 10: change

    private static void changed() {
        BigInteger[] numbers = {BigInteger.ZERO, BigInteger.valueOf(-1), BigInteger.valueOf(35),
            BigInteger.valueOf(Long.MIN_VALUE), GREATEST, GREATEST.negate()};
        for (BigInteger number : numbers) {
            for (int base = 2; base <= 36; base++) {
                int other = 2 + (base * 7 + 3) % 35;
                String ahead = number.signum() < 0 ? "-0" : "+0";
                Radixtape x = tape(ahead + number.abs().toString(base).toUpperCase());
                x.set(3, 8);
                x.change(base, other);
                dueText("changed from " + base + " to " + other, x, number.toString(other));
                dueNumber("the register stays", x, 3, 8);
                dueNumber("no register is read into", x, 0, 0);
            }
        }
    }

    private static void changedToAnyBase() {
        for (int other = -300; other <= 300; other++) {
            Radixtape x = tape("-FF");
            x.change(16, other);
            dueText("changed to " + other, x, Integer.toString(-255, other < 2 || other > 36 ? 10 : other));
        }
        for (int other : new int[] {Integer.MIN_VALUE, Integer.MAX_VALUE}) {
            due("change to " + other, tape("+FF").change(16, other), 3);
        }
    }

    private static void changedLength() {
        due("change of -0", tape("-0").change(10, 2), 1);
        due("change of 1200 digits 0", tape("0".repeat(1200)).change(2, 2), 1);
        due("change of +00FF", tape("+00FF").change(16, 16), 2);
        due("change of -ff to 2", tape("-ff").change(16, 2), 9);
        Radixtape x = tape(GREATEST.negate().toString(36));
        due("change of the least to 2", x.change(36, 2), 801);
        due("length then", x.length(), 801);
    }

    private static void changeNoNumber() {
        for (int base : NO_BASES) {
            refuses("change of 1 from base " + base, FORMAT, () -> tape("1"), x -> x.change(base, 10));
            refuses("change of 0 from base " + base, FORMAT, () -> tape("0"), x -> x.change(base, 10));
            refuses("change of nothing from base " + base, FORMAT, Radixtape::new, x -> x.change(base, 10));
        }
        for (int base = 2; base <= 36; base++) {
            int known = base;
            String digit = base == 36 ? "[" : Integer.toString(base, 36).toUpperCase();
            refuses("change of a digit " + base, FORMAT, () -> tape(digit), x -> x.change(known, 10));
            String less = Integer.toString(base - 1, 36);
            due("change of a digit one less", tape(less).change(base, 36), 1);
        }
        for (String text : new String[] {"", "+", "-", "-+1", "1-", " 1", "1 "}) {
            refuses("change of '" + text + "'", FORMAT, () -> tape(text), x -> x.change(10, 10));
        }
    }

    private static void changeTooLarge() {
        for (int base = 2; base <= 36; base++) {
            int known = base;
            for (String sign : new String[] {"", "+", "-"}) {
                String text = sign + LIMIT.toString(base);
                refuses("change of the limit to its own base", STATE, () -> tape(text), x -> x.change(known, known));
                refuses("change of the limit to no base", STATE, () -> tape(text), x -> x.change(known, 0));
                Radixtape x = tape(sign + GREATEST.toString(base));
                x.change(base, 16);
                dueText("the greatest changed from " + base, x, (sign.equals("-") ? "-" : "") + "f".repeat(200));
            }
        }
    }

    // ---- promise 11: hear

    private static void heard() {
        long[] numbers = {0, 1, -1, 255, -8, 123456789};
        for (long number : numbers) {
            for (int told = 2; told <= 36; told++) {
                for (int heard = told; heard <= 36; heard++) {
                    Radixtape x = withRegister(2, number);
                    x.type('q');
                    x.set(1, 44);
                    x.hear(2, told, heard);
                    BigInteger want = new BigInteger(Long.toString(number, told), heard);
                    dueNumber(number + " told in " + told + ", heard in " + heard, x, 2, want);
                    dueNumber("the register beside", x, 1, 44);
                    dueText("the tape", x, "q");
                }
            }
        }
        Radixtape smaller = withRegister(0, -1000);
        smaller.hear(0, 10, 2);
        dueNumber("told in 10, heard in 2", smaller, 0, -8);
    }

    private static void heardToldInAnyBase() {
        for (int told = -300; told <= 300; told++) {
            Radixtape x = withRegister(0, -35);
            String written = Integer.toString(-35, told < 2 || told > 36 ? 10 : told);
            x.hear(0, told, 36);
            dueNumber("told in " + told, x, 0, new BigInteger(written, 36));
        }
        for (int told : new int[] {Integer.MIN_VALUE, Integer.MAX_VALUE}) {
            Radixtape x = withRegister(0, 10);
            x.hear(0, told, 16);
            dueNumber("told in " + told, x, 0, 16);
        }
    }

    private static void heardSignum() {
        due("hear of 0", new Radixtape().hear(0, 2, 36), 0);
        due("hear of 1", withRegister(0, 1).hear(0, 2, 36), 1);
        due("hear of -1", withRegister(0, -1).hear(0, 2, 36), -1);
        due("hear of -1 told in 0", withRegister(0, -1).hear(0, 0, 2), -1);
        Radixtape high = withRegister(0, BigInteger.ONE.shiftLeft(799));
        due("hear of a number whose lowest bits are 0", high.hear(0, 2, 2), 1);
    }

    private static void hearNoRegister() {
        for (int register : NO_REGISTERS) {
            refuses("hear of " + register, INDEX, () -> tape("12"), x -> x.hear(register, 10, 10));
            refuses("hear of " + register + " in base 1", INDEX, Radixtape::new, x -> x.hear(register, 10, 1));
        }
    }

    private static void hearNoBase() {
        for (int heard : NO_BASES) {
            refuses("hear of 0 in " + heard, FORMAT, Radixtape::new, x -> x.hear(0, 10, heard));
            refuses("hear of 10 in " + heard, FORMAT, () -> withRegister(0, 10), x -> x.hear(0, heard, heard));
        }
        due("hear in 2", withRegister(0, 10).hear(0, 10, 2), 1);
        due("hear in 36", withRegister(0, 10).hear(0, 10, 36), 1);
    }

    private static void hearNoNumber() {
        for (int heard = 2; heard < 36; heard++) {
            int known = heard;
            refuses("hear of a digit " + heard, FORMAT, () -> withRegister(0, known), x -> x.hear(0, 36, known));
            refuses("hear of it below 0", FORMAT, () -> withRegister(0, -36 - known), x -> x.hear(0, 36, known));
            Radixtape x = withRegister(0, heard - 1);
            due("hear of a digit one less", x.hear(0, 36, heard), 1);
            dueNumber("what is heard", x, 0, heard - 1);
        }
        refuses("hear of 8 in 8", FORMAT, () -> withRegister(0, -8), x -> x.hear(0, 77, 8));
    }

    private static void hearTooLarge() {
        for (int sign = -1; sign <= 1; sign += 2) {
            BigInteger signed = BigInteger.valueOf(sign);
            // Written in 2, this is what 2 to the power 800 is in 16, and in 4 with half as many digits.
            BigInteger limitIn16 = BigInteger.ONE.shiftLeft(200).multiply(signed);
            BigInteger limitIn4 = BigInteger.ONE.shiftLeft(400).multiply(signed);
            refuses("hear of the limit in 16", STATE, () -> withRegister(0, limitIn16), x -> x.hear(0, 2, 16));
            refuses("hear of the limit in 4", STATE, () -> withRegister(0, limitIn4), x -> x.hear(0, 2, 4));
            BigInteger less = limitIn4.subtract(signed);
            Radixtape x = withRegister(0, less);
            due("hear of 400 digits 1 in 4", x.hear(0, 2, 4), sign);
            dueNumber("400 digits 1 in 4", x, 0, new BigInteger(less.toString(2), 4));
            BigInteger greatest = GREATEST.multiply(signed);
            refuses("hear of the greatest", STATE, () -> withRegister(0, greatest), y -> y.hear(0, 35, 36));
            due("hear of the greatest in its own base", withRegister(0, greatest).hear(0, 35, 35), sign);
        }
    }

    // ---- promise 12: set

    private static void set() {
        long[] numbers = {0, 1, -1, Integer.MAX_VALUE, Integer.MIN_VALUE, 1L << 32, -(1L << 32), 0xFFFFFFFFL,
            Long.MAX_VALUE, Long.MIN_VALUE, Long.MIN_VALUE + 1};
        for (int register = 0; register <= 3; register++) {
            for (long number : numbers) {
                Radixtape x = withRegister(register, GREATEST);
                x.set(register, number);
                dueNumber("set over the greatest", x, register, number);
                dueNumber("the register beside", x, 3 - register, 0);
            }
        }
    }

    private static void setSignum() {
        Radixtape x = new Radixtape();
        due("set over 0", x.set(1, Long.MIN_VALUE), 0);
        due("set over the least long", x.set(1, Long.MAX_VALUE), -1);
        due("set over the greatest long", x.set(1, 0), 1);
        due("set over 0", x.set(1, 0), 0);
        due("set over the greatest", withRegister(0, GREATEST).set(0, -1), 1);
        due("set over the least", withRegister(0, GREATEST.negate()).set(0, 1), -1);
    }

    private static void setNoRegister() {
        for (int register : NO_REGISTERS) {
            refuses("set of " + register, INDEX, () -> tape("12"), x -> x.set(register, 5));
        }
    }

    // ---- promise 13: add

    private static void added() {
        BigInteger[] numbers = {BigInteger.ZERO, BigInteger.ONE, BigInteger.valueOf(0xFFFFFFFFL),
            BigInteger.ONE.shiftLeft(32), BigInteger.valueOf(Long.MAX_VALUE), BigInteger.ONE.shiftLeft(64),
            BigInteger.ONE.shiftLeft(798), BigInteger.ONE.shiftLeft(799).subtract(BigInteger.ONE)};
        for (BigInteger size : numbers) {
            for (BigInteger other : numbers) {
                adds(size, other);
                adds(size.negate(), other);
                adds(size, other.negate());
                adds(size.negate(), other.negate());
            }
        }
    }

    private static void adds(BigInteger number, BigInteger to) {
        Radixtape x = withRegister(3, number);
        putRegister(x, 1, to);
        x.add(3, 1);
        dueNumber(number + " added to " + to, x, 1, number.add(to));
        dueNumber("what is added stays", x, 3, number);
    }

    private static void addedToItself() {
        BigInteger[] numbers = {BigInteger.ZERO, BigInteger.valueOf(-21), BigInteger.ONE.shiftLeft(31),
            BigInteger.ONE.shiftLeft(63), BigInteger.ONE.shiftLeft(799).subtract(BigInteger.ONE)};
        for (BigInteger number : numbers) {
            Radixtape x = withRegister(2, number);
            due("add to itself", x.add(2, 2), number.signum());
            dueNumber("what is added to itself", x, 2, number.add(number));
        }
    }

    private static void addedSignum() {
        long[] numbers = {-9, -1, 0, 1, 9};
        for (long number : numbers) {
            for (long to : numbers) {
                Radixtape x = withRegister(0, number);
                x.set(1, to);
                due("add of " + number + " to " + to, x.add(0, 1), Long.signum(number + to));
                due("signum then", x.signum(1), Long.signum(number + to));
            }
        }
        Radixtape opposites = withRegister(0, GREATEST);
        putRegister(opposites, 1, GREATEST.negate());
        due("add of the greatest to the least", opposites.add(0, 1), 0);
        dueNumber("their sum", opposites, 1, 0);
    }

    private static void addNoRegister() {
        for (int register : NO_REGISTERS) {
            refuses("add of " + register, INDEX, () -> tape("12"), x -> x.add(register, 0));
            refuses("add to " + register, INDEX, () -> tape("12"), x -> x.add(0, register));
            refuses("add of " + register + " to itself", INDEX, () -> tape("12"), x -> x.add(register, register));
        }
    }

    private static void addedTooMuch() {
        for (int sign = -1; sign <= 1; sign += 2) {
            BigInteger signed = BigInteger.valueOf(sign);
            BigInteger greatest = GREATEST.multiply(signed);
            BigInteger half = BigInteger.ONE.shiftLeft(799).multiply(signed);
            refusesSum(greatest, signed);
            refusesSum(signed, greatest);
            refusesSum(greatest, greatest);
            refusesSum(half, half);
            adds(greatest.subtract(signed), signed);
            adds(half, half.subtract(signed));
            adds(greatest, signed.negate());
            adds(greatest, BigInteger.ZERO);
        }
    }

    private static void refusesSum(BigInteger number, BigInteger to) {
        Recipe recipe = () -> {
            Radixtape x = withRegister(0, number);
            putRegister(x, 1, to);
            return x;
        };
        refuses("add of too much", STATE, recipe, x -> x.add(0, 1));
    }

    // ---- promise 14: multiply

    private static void multiplied() {
        BigInteger[] numbers = {BigInteger.ZERO, BigInteger.ONE, BigInteger.valueOf(-7), BigInteger.valueOf(0xFFFFFFFFL),
            BigInteger.valueOf(Long.MIN_VALUE), BigInteger.ONE.shiftLeft(768), BigInteger.ONE.shiftLeft(767).negate()};
        int[] factors = {0, 1, -1, 2, -36, 65536, Integer.MAX_VALUE, Integer.MIN_VALUE};
        for (BigInteger number : numbers) {
            for (int by : factors) {
                for (int more : factors) {
                    multiplies(number, by, more);
                }
            }
        }
    }

    private static void multiplies(BigInteger number, int by, int more) {
        BigInteger want = number.multiply(BigInteger.valueOf(by)).add(BigInteger.valueOf(more));
        Recipe recipe = () -> withRegister(1, number);
        String what = number + " by " + by + " and " + more;
        if (want.bitLength() > 800 || want.abs().equals(LIMIT)) {
            refuses(what, STATE, recipe, x -> x.multiply(1, by, more));
            return;
        }
        Radixtape x = recipe.make();
        due(what, x.multiply(1, by, more), want.signum());
        dueNumber(what, x, 1, want);
        dueNumber("the register beside", x, 0, 0);
    }

    private static void multipliedBySpecial() {
        Radixtape x = withRegister(0, GREATEST);
        due("multiply of the greatest by 0", x.multiply(0, 0, 0), 0);
        dueNumber("what it is then", x, 0, 0);
        Radixtape turned = withRegister(0, GREATEST);
        due("multiply of the greatest by -1", turned.multiply(0, -1, 0), -1);
        dueNumber("what it is then", turned, 0, GREATEST.negate());
        multiplies(BigInteger.valueOf(-3), Integer.MIN_VALUE, 0);
        multiplies(BigInteger.ONE.shiftLeft(768), Integer.MIN_VALUE, 0);
        multiplies(BigInteger.ONE.shiftLeft(769), Integer.MIN_VALUE, 0);
    }

    private static void multipliedAddedThen() {
        Radixtape x = withRegister(0, 5);
        x.multiply(0, 10, 3);
        dueNumber("5 by 10 and 3", x, 0, 53);
        x.multiply(0, 0, Integer.MIN_VALUE);
        dueNumber("by 0 and the least int", x, 0, Integer.MIN_VALUE);
        x.multiply(0, -1, Integer.MIN_VALUE);
        dueNumber("its opposite and the least int", x, 0, 0);
        multiplies(BigInteger.ONE.shiftLeft(64), 1, -1);
        multiplies(BigInteger.ONE.shiftLeft(64).negate(), 1, 1);
        multiplies(BigInteger.ONE.shiftLeft(64).subtract(BigInteger.ONE), 1, 1);
    }

    private static void multipliedSignum() {
        int[] numbers = {-3, -1, 0, 1, 3};
        for (int number : numbers) {
            for (int by : numbers) {
                for (int more : numbers) {
                    Radixtape x = withRegister(3, number);
                    int want = Integer.signum(number * by + more);
                    due(number + " by " + by + " and " + more, x.multiply(3, by, more), want);
                    due("signum then", x.signum(3), want);
                }
            }
        }
    }

    private static void multiplyNoRegister() {
        for (int register : NO_REGISTERS) {
            refuses("multiply of " + register, INDEX, () -> tape("12"), x -> x.multiply(register, 2, 3));
        }
    }

    /** The product may be out of bounds, if what is added then brings the result back. */
    private static void multipliedTooMuch() {
        BigInteger half = BigInteger.ONE.shiftLeft(799);
        for (int sign = -1; sign <= 1; sign += 2) {
            BigInteger signed = half.multiply(BigInteger.valueOf(sign));
            multiplies(signed, 2, 0);
            multiplies(signed, -2, 0);
            multiplies(signed, 2, -sign);
            multiplies(signed, 2, sign);
            multiplies(signed, -2, sign);
            multiplies(signed, 2, sign > 0 ? Integer.MIN_VALUE : Integer.MAX_VALUE);
            BigInteger greatest = GREATEST.multiply(BigInteger.valueOf(sign));
            multiplies(greatest, 1, 0);
            multiplies(greatest, 1, sign);
            multiplies(greatest, 1, -sign);
            multiplies(greatest, 2, 0);
            multiplies(greatest, Integer.MIN_VALUE, Integer.MIN_VALUE);
            multiplies(greatest, Integer.MAX_VALUE, Integer.MAX_VALUE);
        }
    }

    // ---- promise 15: negate

    private static void negated() {
        BigInteger[] numbers = {BigInteger.ZERO, BigInteger.ONE, BigInteger.valueOf(Long.MIN_VALUE), GREATEST};
        for (BigInteger number : numbers) {
            for (int register = 0; register <= 3; register++) {
                Radixtape x = withRegister(register, number);
                x.negate(register);
                dueNumber("the opposite", x, register, number.negate());
                dueNumber("the register beside", x, 3 - register, 0);
                x.negate(register);
                dueNumber("the opposite of the opposite", x, register, number);
            }
        }
    }

    private static void negatedSignum() {
        due("negate of 0", new Radixtape().negate(0), 0);
        due("negate of 1", withRegister(0, 1).negate(0), -1);
        due("negate of -1", withRegister(0, -1).negate(0), 1);
        due("negate of the least", withRegister(0, GREATEST.negate()).negate(0), 1);
    }

    private static void negateNoRegister() {
        for (int register : NO_REGISTERS) {
            refuses("negate of " + register, INDEX, () -> tape("12"), x -> x.negate(register));
        }
    }

    // ---- promise 16: step

    private static void steps(BigInteger number, int base, boolean isMore, BigInteger want) {
        String what = "step of " + number + " in " + base + (isMore ? " up" : " down");
        Radixtape x = withRegister(2, number);
        due(what, x.step(2, base, isMore), want.abs().toString(base).length());
        dueNumber(what, x, 2, want);
        dueNumber("the register beside", x, 1, 0);
    }

    private static void steps(long number, int base, boolean isMore, long want) {
        steps(BigInteger.valueOf(number), base, isMore, BigInteger.valueOf(want));
    }

    private static void doesNotStep(BigInteger number, int base, boolean isMore) {
        refuses("step of " + number + " in " + base, STATE, () -> withRegister(2, number),
                x -> x.step(2, base, isMore));
    }

    private static void doesNotStep(long number, int base, boolean isMore) {
        doesNotStep(BigInteger.valueOf(number), base, isMore);
    }

    private static void stepped() {
        steps(5, 10, true, 6);
        steps(5, 10, false, 4);
        steps(-5, 10, true, -6);
        steps(-5, 10, false, -4);
        steps(1, 2, false, 0);
        steps(-1, 2, false, 0);
        steps(0xFFFFFFFFL, 10, true, 1L << 32);
        steps(-(1L << 32), 10, false, -0xFFFFFFFFL);
        steps(BigInteger.ONE.shiftLeft(700).subtract(BigInteger.ONE), 10, true, BigInteger.ONE.shiftLeft(700));
        steps(BigInteger.ONE.shiftLeft(700), 10, false, BigInteger.ONE.shiftLeft(700).subtract(BigInteger.ONE));
    }

    private static void steppedAmongSameCount() {
        for (int base = 2; base <= 36; base++) {
            for (int power = 1; power <= 150; power += 29) {
                BigInteger least = BigInteger.valueOf(base).pow(power);
                BigInteger most = least.multiply(BigInteger.valueOf(base)).subtract(BigInteger.ONE);
                steps(least, base, true, least.add(BigInteger.ONE));
                steps(most, base, false, most.subtract(BigInteger.ONE));
                steps(most.subtract(BigInteger.ONE).negate(), base, true, most.negate());
                steps(least.add(BigInteger.ONE).negate(), base, false, least.negate());
            }
        }
        steps(BigInteger.ONE.shiftLeft(799), 2, true, BigInteger.ONE.shiftLeft(799).add(BigInteger.ONE));
        steps(GREATEST, 2, false, GREATEST.subtract(BigInteger.ONE));
    }

    private static void steppedSignStays() {
        for (long size = 1; size <= 8; size++) {
            steps(size, 10, true, size + 1);
            steps(-size, 10, true, -size - 1);
            steps(size + 1, 10, false, size);
            steps(-size - 1, 10, false, -size);
        }
        Radixtape x = withRegister(0, -1);
        x.step(0, 10, true);
        due("signum of what was -1", x.signum(0), -1);
        x.step(0, 10, false);
        x.step(0, 10, false);
        due("signum of what came to 0", x.signum(0), 0);
        x.step(0, 10, true);
        due("signum of what left 0", x.signum(0), 1);
    }

    private static void steppedFrom0() {
        for (int base = 2; base <= 36; base++) {
            Radixtape x = new Radixtape();
            due("step of 0 in " + base, x.step(0, base, true), 1);
            dueNumber("what was 0", x, 0, 1);
            due("step back", x.step(0, base, false), 1);
            dueNumber("what was 1", x, 0, 0);
        }
    }

    private static void steppedInEachBase() {
        for (int base = 2; base <= 36; base++) {
            Radixtape x = new Radixtape();
            for (int size = 1; size < base; size++) {
                due("step in " + base, x.step(0, base, true), 1);
            }
            dueNumber("the last digit", x, 0, base - 1);
            int known = base;
            refused("step behind the last digit of " + base, STATE, x, () -> x.step(0, known, true));
        }
    }

    private static void steppedDigits() {
        due("step of 0", new Radixtape().step(0, 2, true), 1);
        due("step of -98", withRegister(0, -98).step(0, 10, true), 2);
        due("step of 101", withRegister(0, 101).step(0, 10, false), 3);
        due("step of the greatest", withRegister(0, GREATEST).step(0, 2, false), 800);
        due("step of the greatest in 36", withRegister(0, GREATEST).step(0, 36, false), 155);
    }

    private static void stepNoRegister() {
        for (int register : NO_REGISTERS) {
            refuses("step of " + register, INDEX, () -> tape("12"), x -> x.step(register, 10, true));
            refuses("step of " + register + " in base 1", INDEX, () -> tape("12"), x -> x.step(register, 1, false));
        }
    }

    private static void stepNoBase() {
        for (int base : NO_BASES) {
            refuses("step up in " + base, ARGUMENT, () -> withRegister(0, 5), x -> x.step(0, base, true));
            refuses("step down in " + base, ARGUMENT, () -> withRegister(0, 5), x -> x.step(0, base, false));
            refuses("step of 0 down in " + base, ARGUMENT, Radixtape::new, x -> x.step(0, base, false));
        }
    }

    private static void steppedToAnotherCount() {
        for (int base = 2; base <= 36; base++) {
            for (int power = 1; power <= 150; power += 29) {
                BigInteger least = BigInteger.valueOf(base).pow(power);
                BigInteger below = least.subtract(BigInteger.ONE);
                doesNotStep(least, base, false);
                doesNotStep(least.negate(), base, false);
                doesNotStep(below, base, true);
                doesNotStep(below.negate(), base, true);
            }
        }
        doesNotStep(1, 2, true);
        doesNotStep(-1, 2, true);
        doesNotStep(10, 10, false);
        doesNotStep(BigInteger.ONE.shiftLeft(799), 2, false);
    }

    private static void steppedBelow0() {
        for (int base = 2; base <= 36; base++) {
            doesNotStep(0, base, false);
        }
        Radixtape x = withRegister(0, -1);
        due("step of -1", x.step(0, 10, false), 1);
        refused("step of what came to 0", STATE, x, () -> x.step(0, 10, false));
    }

    /** In most bases 2 to the power 800 has as many digits as the number one less. */
    private static void steppedTooMuch() {
        for (int base = 2; base <= 36; base++) {
            doesNotStep(GREATEST, base, true);
            doesNotStep(GREATEST.negate(), base, true);
        }
        BigInteger less = GREATEST.subtract(BigInteger.ONE);
        steps(less, 10, true, GREATEST);
        steps(less.negate(), 2, true, GREATEST.negate());
    }
}
