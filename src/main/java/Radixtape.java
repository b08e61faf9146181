import java.util.NoSuchElementException;

/** A tape of signs and four registers of whole numbers, as ../shared/DOC.md promises them. */
public final class Radixtape {
    public static final int NONE = -1;

    private static final int LONGEST = 1200;
    private static final int FIRST_SIGN = 32;
    private static final int LAST_SIGN = 126;
    private static final int REGISTERS = 4;
    private static final int UNDOABLE = 20;

    private static final int LEAST_BASE = 2;
    private static final int GREATEST_BASE = 36;
    private static final int USUAL_BASE = 10;

    private static final int LIMB_BITS = 32;
    private static final long LIMB = 0xFFFFFFFFL;
    /** 25 limbs of 32 bits are just the 800 bits that a register holds. */
    private static final int LIMBS = 25;
    /** One limb more takes every result that is made before its size is looked at. */
    private static final int ROOM = LIMBS + 1;
    private static final int MOST_DIGITS = LIMBS * LIMB_BITS;
    /** So many digits are worked on at once, as 36 to the power 5 stays below 2 to the power 31. */
    private static final int PLACES = 5;

    private static final int IS_READ = 0;
    private static final int IS_NO_NUMBER = 1;
    private static final int IS_TOO_LARGE = 2;

    /** How many digits 0 the check of the theorem puts ahead. */
    private static final int ZEROS_AHEAD = 3;

    private final State now = new State();
    private final State[] past = new State[UNDOABLE];
    private int nextPast = 0;
    private int undoable = 0;

    // Made once, so that no call needs room of its own.
    private final Whole result = new Whole();
    private final Whole helper = new Whole();
    private final Row spelled = new Row();
    private final Row text = new Row();
    private final Row variant = new Row();

    public Radixtape() {
        for (int i = 0; i < past.length; i++) {
            past[i] = new State();
        }
    }

    // ---- changes

    public int type(long signs) throws IllegalArgumentException, IllegalStateException {
        text.clear();
        for (int shift = 56; shift >= 0; shift -= 8) {
            int sign = (int) (signs >>> shift) & 255;
            if (sign != 0 && !isSign(sign)) {
                throw new IllegalArgumentException("a byte is no sign");
            }
            if (sign != 0) {
                text.append(sign);
            }
        }
        return appendToTape(text);
    }

    public int wipe() {
        remember();
        int before = now.tape.count;
        now.tape.clear();
        return before;
    }

    public int reverse() {
        remember();
        now.tape.turnRound();
        return now.tape.count;
    }

    public int cut(int from, int to) throws IndexOutOfBoundsException {
        if (from < 0 || to > now.tape.count || from > to) {
            throw new IndexOutOfBoundsException("no such part of the tape");
        }
        remember();
        now.tape.takeOut(from, to);
        return now.tape.count;
    }

    public int setSign(int index, int sign) throws IndexOutOfBoundsException, IllegalArgumentException {
        requireIndex(index);
        if (!isSign(sign)) {
            throw new IllegalArgumentException("no such sign");
        }
        remember();
        int before = now.tape.at(index);
        now.tape.put(index, sign);
        return before;
    }

    public int capitals(boolean areCapitals) {
        remember();
        return now.tape.makeLetters(areCapitals);
    }

    public int read(int register, int base)
            throws IndexOutOfBoundsException, NumberFormatException, IllegalStateException {
        Whole number = registerAt(register);
        readResult(now.tape, base);
        return putResult(number);
    }

    public int write(int register, int base) throws IndexOutOfBoundsException, IllegalStateException {
        Whole number = registerAt(register);
        text.clear();
        appendWritten(number, base, text);
        appendToTape(text);
        return text.count;
    }

    public int change(int base, int other) throws NumberFormatException, IllegalStateException {
        readResult(now.tape, base);
        remember();
        now.tape.clear();
        appendWritten(result, other, now.tape);
        return now.tape.count;
    }

    public int hear(int register, int told, int heard)
            throws IndexOutOfBoundsException, NumberFormatException, IllegalStateException {
        Whole number = registerAt(register);
        text.clear();
        appendWritten(number, told, text);
        readResult(text, heard);
        return putResult(number);
    }

    public int set(int register, long number) throws IndexOutOfBoundsException {
        Whole changed = registerAt(register);
        int before = changed.sign;
        remember();
        changed.putLong(number);
        return before;
    }

    public int add(int register, int to) throws IndexOutOfBoundsException, IllegalStateException {
        Whole added = registerAt(register);
        Whole changed = registerAt(to);
        result.copyFrom(changed);
        result.plus(added);
        return putResult(changed);
    }

    public int multiply(int register, int by, int more) throws IndexOutOfBoundsException, IllegalStateException {
        Whole number = registerAt(register);
        result.copyFrom(number);
        result.times(by);
        helper.putLong(more);
        result.plus(helper);
        return putResult(number);
    }

    public int negate(int register) throws IndexOutOfBoundsException {
        Whole number = registerAt(register);
        remember();
        number.sign = -number.sign;
        return number.sign;
    }

    public int step(int register, int base, boolean isMore)
            throws IndexOutOfBoundsException, IllegalArgumentException, IllegalStateException {
        Whole number = registerAt(register);
        requireBase(base);
        if (number.sign == 0 && !isMore) {
            throw new IllegalStateException("the size would be below 0");
        }
        int count = countDigits(number, base);
        boolean isUpwards = isMore == (number.sign >= 0);
        result.copyFrom(number);
        helper.putLong(isUpwards ? 1 : -1);
        result.plus(helper);
        // A size that no register holds is refused before its digits are asked for.
        if (!result.isHeld() || countDigits(result, base) != count) {
            throw new IllegalStateException("another count of digits, or too large");
        }
        putResult(number);
        return count;
    }

    // ---- undoing

    public int undo() throws NoSuchElementException {
        int latest = nextPast == 0 ? UNDOABLE - 1 : nextPast - 1;
        State moment = pastAt(latest);
        if (undoable == 0 || moment == null) {
            throw new NoSuchElementException("nothing can be undone");
        }
        now.copyFrom(moment);
        nextPast = latest;
        undoable--;
        return undoable;
    }

    // ---- questions

    public int length() {
        return now.tape.count;
    }

    public int signAt(int index) throws IndexOutOfBoundsException {
        requireIndex(index);
        return now.tape.at(index);
    }

    public boolean isNumber(int base) {
        return hasForm(now.tape, base);
    }

    public int leastBase() {
        for (int base = LEAST_BASE; base <= GREATEST_BASE; base++) {
            if (hasForm(now.tape, base)) {
                return base;
            }
        }
        return NONE;
    }

    public int compare(int register, int other) throws IndexOutOfBoundsException {
        Whole number = registerAt(register);
        return number.against(registerAt(other));
    }

    public int signum(int register) throws IndexOutOfBoundsException {
        return registerAt(register).sign;
    }

    public int digits(int register, int base) throws IndexOutOfBoundsException, IllegalArgumentException {
        spellRegister(register, base);
        return spelled.count;
    }

    public int digitAt(int register, int base, int index)
            throws IndexOutOfBoundsException, IllegalArgumentException, NoSuchElementException {
        spellRegister(register, base);
        if (index < 0 || index >= spelled.count) {
            throw new NoSuchElementException("no such digit");
        }
        return spelled.at(index);
    }

    public int sumOfDigits(int register, int base) throws IndexOutOfBoundsException, IllegalArgumentException {
        spellRegister(register, base);
        return spelled.sum();
    }

    public boolean isMirrored(int register, int base) throws IndexOutOfBoundsException, IllegalArgumentException {
        spellRegister(register, base);
        return spelled.isSameFromBothEnds();
    }

    public long low(int register) throws IndexOutOfBoundsException {
        return registerAt(register).lowBits();
    }

    public double meanDigit(int register, int base) throws IndexOutOfBoundsException, IllegalArgumentException {
        spellRegister(register, base);
        int count = spelled.count;
        return count == 0 ? 0.0 : (double) spelled.sum() / (double) count;
    }

    public float digitShare(int base) throws IllegalArgumentException {
        requireBase(base);
        int count = now.tape.count;
        if (count == 0) {
            return 0.0f;
        }
        int found = 0;
        for (int i = 0; i < count; i++) {
            if (isDigit(now.tape.at(i), base)) {
                found++;
            }
        }
        return (float) found / (float) count;
    }

    public int errors() {
        int errors = 0;
        for (int base = LEAST_BASE; base <= GREATEST_BASE; base++) {
            for (Whole number : now.registers) {
                if (number != null) {
                    errors += errorsOfWritten(number, base);
                }
            }
            boolean isRefused = readInto(now.tape, base, result) == IS_NO_NUMBER;
            errors += countError(isRefused == hasForm(now.tape, base));
        }
        return errors;
    }

    // ---- what is refused

    private Whole registerAt(int register) {
        Whole number = register >= 0 && register < now.registers.length ? now.registers[register] : null;
        if (number == null) {
            throw new IndexOutOfBoundsException("no such register");
        }
        return number;
    }

    private void requireIndex(int index) {
        if (index < 0 || index >= now.tape.count) {
            throw new IndexOutOfBoundsException("no such sign on the tape");
        }
    }

    private static void requireBase(int base) {
        if (!isBase(base)) {
            throw new IllegalArgumentException("no such base");
        }
    }

    private static boolean isBase(int base) {
        return base >= LEAST_BASE && base <= GREATEST_BASE;
    }

    private static boolean isSign(int sign) {
        return sign >= FIRST_SIGN && sign <= LAST_SIGN;
    }

    // ---- the ends of changes

    private int appendToTape(Row signs) {
        if (now.tape.count + signs.count > LONGEST) {
            throw new IllegalStateException("the tape would be too long");
        }
        remember();
        now.tape.appendFrom(signs, 0);
        return now.tape.count;
    }

    private int putResult(Whole number) {
        if (!result.isHeld()) {
            throw new IllegalStateException("the number is too large");
        }
        remember();
        number.copyFrom(result);
        return number.sign;
    }

    private void remember() {
        State moment = pastAt(nextPast);
        if (moment == null) {
            return;
        }
        moment.copyFrom(now);
        nextPast = nextPast + 1 < UNDOABLE ? nextPast + 1 : 0;
        undoable = Math.min(undoable + 1, UNDOABLE);
    }

    private State pastAt(int index) {
        return index >= 0 && index < past.length ? past[index] : null;
    }

    // ---- reading

    private void readResult(Row signs, int base) {
        int outcome = readInto(signs, base, result);
        if (outcome == IS_NO_NUMBER) {
            throw new NumberFormatException("no number in this base");
        }
        if (outcome == IS_TOO_LARGE) {
            throw new IllegalStateException("the number is too large");
        }
    }

    /** Goes on to the end when the number is too large already, as a text that is none is told first. */
    private static int readInto(Row signs, int base, Whole number) {
        number.clear();
        int start = startOfDigits(signs);
        if (!isBase(base) || start >= signs.count) {
            return IS_NO_NUMBER;
        }
        long part = 0;
        long scale = 1;
        int places = 0;
        for (int i = start; i < signs.count; i++) {
            if (!isDigit(signs.at(i), base)) {
                return IS_NO_NUMBER;
            }
            part = part * base + digitOf(signs.at(i));
            scale *= base;
            places++;
            if (places == PLACES || i == signs.count - 1) {
                if (number.isHeld()) {
                    number.scaleSize(scale, part);
                }
                part = 0;
                scale = 1;
                places = 0;
            }
        }
        number.settleSign(signs.at(0) == '-' ? -1 : 1);
        return number.isHeld() ? IS_READ : IS_TOO_LARGE;
    }

    private static boolean hasForm(Row signs, int base) {
        int start = startOfDigits(signs);
        if (!isBase(base) || start >= signs.count) {
            return false;
        }
        for (int i = start; i < signs.count; i++) {
            if (!isDigit(signs.at(i), base)) {
                return false;
            }
        }
        return true;
    }

    private static int startOfDigits(Row signs) {
        int first = signs.at(0);
        return first == '+' || first == '-' ? 1 : 0;
    }

    private static boolean isDigit(int sign, int base) {
        int digit = digitOf(sign);
        return digit >= 0 && digit < base;
    }

    private static int digitOf(int sign) {
        if (sign >= '0' && sign <= '9') {
            return sign - '0';
        }
        if (sign >= 'a' && sign <= 'z') {
            return sign - 'a' + 10;
        }
        if (sign >= 'A' && sign <= 'Z') {
            return sign - 'A' + 10;
        }
        return NONE;
    }

    // ---- writing

    private void appendWritten(Whole number, int base, Row signs) {
        spell(number, base);
        if (number.sign < 0) {
            signs.append('-');
        }
        for (int i = spelled.count - 1; i >= 0; i--) {
            signs.append(signOf(spelled.at(i)));
        }
    }

    private static int signOf(int digit) {
        return digit < 10 ? '0' + digit : 'a' + digit - 10;
    }

    private void spellRegister(int register, int base) {
        Whole number = registerAt(register);
        requireBase(base);
        spell(number, base);
    }

    private int countDigits(Whole number, int base) {
        spell(number, base);
        return spelled.count;
    }

    /** Puts the digits into the row from the last one on, as they are numbered. */
    private void spell(Whole number, int base) {
        int divisor = isBase(base) ? base : USUAL_BASE;
        long scale = powerOf(divisor, PLACES);
        helper.copyFrom(number);
        spelled.clear();
        for (int i = 0; i < MOST_DIGITS && (i == 0 || !helper.isZero()); i += PLACES) {
            long part = helper.divideSize(scale);
            for (int place = 0; place < PLACES; place++) {
                spelled.append((int) (part % divisor));
                part /= divisor;
            }
        }
        spelled.dropZerosBehind();
    }

    private static long powerOf(int base, int exponent) {
        long power = 1;
        for (int i = 0; i < exponent; i++) {
            power *= base;
        }
        return power;
    }

    // ---- checking the theorem

    private int errorsOfWritten(Whole number, int base) {
        text.clear();
        appendWritten(number, base, text);
        int start = startOfDigits(text);
        int errors = countError(!isReadAs(text, base, number));
        errors += countError(!hasWrittenForm(number, base));
        errors += countError(text.count - start != digitsByPowers(number, base));
        if (number.sign >= 0) {
            variant.clear();
            variant.append('+');
            variant.appendFrom(text, 0);
            errors += countError(!isReadAs(variant, base, number));
        }
        variant.copyFrom(text);
        variant.makeLetters(true);
        errors += countError(!isReadAs(variant, base, number));
        putZerosAhead(start);
        errors += countError(!isReadAs(variant, base, number));
        return errors;
    }

    private static int countError(boolean isError) {
        return isError ? 1 : 0;
    }

    private boolean isReadAs(Row signs, int base, Whole number) {
        return readInto(signs, base, result) == IS_READ && result.against(number) == 0;
    }

    private boolean hasWrittenForm(Whole number, int base) {
        boolean hasMinus = text.at(0) == '-';
        int start = hasMinus ? 1 : 0;
        if (hasMinus != number.sign < 0 || start >= text.count) {
            return false;
        }
        for (int i = start; i < text.count; i++) {
            int sign = text.at(i);
            if (!isDigit(sign, base) || isCapital(sign)) {
                return false;
            }
        }
        return text.at(start) != '0' || text.count == start + 1 && number.sign == 0;
    }

    private static boolean isCapital(int sign) {
        return sign >= 'A' && sign <= 'Z';
    }

    private int digitsByPowers(Whole number, int base) {
        int count = 0;
        helper.putLong(1);
        for (int i = 0; i <= MOST_DIGITS && helper.compareSize(number) <= 0; i++) {
            helper.scaleSize(base, 0);
            count++;
        }
        return Math.max(count, 1);
    }

    private void putZerosAhead(int start) {
        variant.clear();
        if (start == 1) {
            variant.append(text.at(0));
        }
        for (int i = 0; i < ZEROS_AHEAD; i++) {
            variant.append('0');
        }
        variant.appendFrom(text, start);
    }

    /** What a change can alter, and an undoing brings back. */
    private static final class State {
        final Row tape = new Row();
        final Whole[] registers = new Whole[REGISTERS];

        State() {
            for (int i = 0; i < registers.length; i++) {
                registers[i] = new Whole();
            }
        }

        void copyFrom(State other) {
            tape.copyFrom(other.tape);
            for (int i = 0; i < registers.length && i < other.registers.length; i++) {
                Whole from = other.registers[i];
                Whole into = registers[i];
                if (from != null && into != null) {
                    into.copyFrom(from);
                }
            }
        }
    }

    /** A row of signs, or of the values of digits. */
    private static final class Row {
        final byte[] cells = new byte[LONGEST];
        int count = 0;

        int at(int index) {
            return index >= 0 && index < count && index < cells.length ? cells[index] : 0;
        }

        void put(int index, int cell) {
            if (index >= 0 && index < count && index < cells.length) {
                cells[index] = (byte) cell;
            }
        }

        void clear() {
            count = 0;
        }

        void append(int cell) {
            if (count >= 0 && count < cells.length) {
                cells[count] = (byte) cell;
                count++;
            }
        }

        void appendFrom(Row other, int start) {
            for (int i = start; i < other.count; i++) {
                append(other.at(i));
            }
        }

        void copyFrom(Row other) {
            clear();
            appendFrom(other, 0);
        }

        void turnRound() {
            for (int i = 0; i < count / 2; i++) {
                int other = count - 1 - i;
                int cell = at(i);
                put(i, at(other));
                put(other, cell);
            }
        }

        void takeOut(int from, int to) {
            for (int i = to; i < count; i++) {
                put(from + i - to, at(i));
            }
            count -= to - from;
        }

        int makeLetters(boolean areCapitals) {
            int first = areCapitals ? 'a' : 'A';
            int shift = areCapitals ? 'A' - 'a' : 'a' - 'A';
            int changed = 0;
            for (int i = 0; i < count; i++) {
                int cell = at(i);
                if (cell >= first && cell < first + 26) {
                    put(i, cell + shift);
                    changed++;
                }
            }
            return changed;
        }

        /** Leaves one cell, as the number 0 has one digit. */
        void dropZerosBehind() {
            for (int i = count; i > 1 && at(i - 1) == 0; i--) {
                count = i - 1;
            }
        }

        int sum() {
            int sum = 0;
            for (int i = 0; i < count; i++) {
                sum += at(i);
            }
            return sum;
        }

        boolean isSameFromBothEnds() {
            for (int i = 0; i < count / 2; i++) {
                if (at(i) != at(count - 1 - i)) {
                    return false;
                }
            }
            return true;
        }
    }

    /** A whole number: its sign, which is 0 for the number 0 alone, and its size, the lowest limb first. */
    private static final class Whole {
        int sign = 0;
        final long[] limbs = new long[ROOM];

        long limbAt(int index) {
            return index >= 0 && index < limbs.length ? limbs[index] : 0;
        }

        void clear() {
            putLong(0);
        }

        void putLong(long number) {
            sign = Long.signum(number);
            // The least long has itself as its opposite, and its bits are its size.
            long rest = number < 0 ? -number : number;
            for (int i = 0; i < limbs.length; i++) {
                limbs[i] = rest & LIMB;
                rest >>>= LIMB_BITS;
            }
        }

        void copyFrom(Whole other) {
            sign = other.sign;
            for (int i = 0; i < limbs.length; i++) {
                limbs[i] = other.limbAt(i);
            }
        }

        boolean isHeld() {
            for (int i = LIMBS; i < limbs.length; i++) {
                if (limbs[i] != 0) {
                    return false;
                }
            }
            return true;
        }

        boolean isZero() {
            for (int i = 0; i < limbs.length; i++) {
                if (limbs[i] != 0) {
                    return false;
                }
            }
            return true;
        }

        void settleSign(int signIfNotZero) {
            sign = isZero() ? 0 : signIfNotZero;
        }

        long lowBits() {
            long bits = limbAt(1) << LIMB_BITS | limbAt(0);
            return sign < 0 ? -bits : bits;
        }

        int against(Whole other) {
            if (sign != other.sign) {
                return sign < other.sign ? -1 : 1;
            }
            return sign * compareSize(other);
        }

        int compareSize(Whole other) {
            for (int i = limbs.length - 1; i >= 0; i--) {
                long limb = other.limbAt(i);
                if (limbs[i] != limb) {
                    return limbs[i] < limb ? -1 : 1;
                }
            }
            return 0;
        }

        void plus(Whole other) {
            if (sign * other.sign >= 0) {
                putSum(this, other);
                sign = sign == 0 ? other.sign : sign;
            } else if (compareSize(other) >= 0) {
                putDifference(this, other);
                settleSign(sign);
            } else {
                putDifference(other, this);
                sign = other.sign;
            }
        }

        void putSum(Whole one, Whole other) {
            long carry = 0;
            for (int i = 0; i < limbs.length; i++) {
                long sum = one.limbAt(i) + other.limbAt(i) + carry;
                limbs[i] = sum & LIMB;
                carry = sum >>> LIMB_BITS;
            }
        }

        void putDifference(Whole larger, Whole smaller) {
            long borrow = 0;
            for (int i = 0; i < limbs.length; i++) {
                long difference = larger.limbAt(i) - smaller.limbAt(i) - borrow;
                limbs[i] = difference & LIMB;
                borrow = difference < 0 ? 1 : 0;
            }
        }

        void times(int factor) {
            // As a long, the opposite of the least int is its size.
            scaleSize(Math.abs((long) factor), 0);
            settleSign(sign * Integer.signum(factor));
        }

        /** Takes a factor and an addend of 2 to the power 31 at most; then no limb's product leaves 64 bits. */
        void scaleSize(long factor, long addend) {
            long carry = addend;
            for (int i = 0; i < limbs.length; i++) {
                long product = limbs[i] * factor + carry;
                limbs[i] = product & LIMB;
                carry = product >>> LIMB_BITS;
            }
        }

        /** Takes a divisor of 2 to the power 31 at most; answers what is left over. */
        long divideSize(long divisor) {
            if (divisor <= 0) {
                return 0;
            }
            long rest = 0;
            for (int i = limbs.length - 1; i >= 0; i--) {
                long part = rest << LIMB_BITS | limbs[i];
                limbs[i] = part / divisor;
                rest = part % divisor;
            }
            return rest;
        }
    }
}
