import java.util.Arrays;

/** A calculator for truncated power series in q and for Bailey pairs and the Bailey chain. */
public final class BaileyChain {
    public static final int BAD_ARGUMENT = -1;
    public static final int NO_SUCH_REGISTER = -2;
    public static final int OVERFLOW = -3;
    public static final int NOT_INVERTIBLE = -4;
    public static final int NOTHING_TO_UNDO = -5;
    public static final int BUFFER_FULL = -6;
    public static final int NONE = -7;
    public static final int EMPTY_SLOT = -11;
    public static final int WRONG_TYPE = -12;
    public static final int INDEX_OUT_OF_RANGE = -13;
    public static final int NEGATIVE_SIZE = -14;
    public static final long NO_VALUE = Long.MIN_VALUE;

    private static final int MIN_PRECISION = 4;
    private static final int MAX_PRECISION = 24;
    private static final int FIRST_PRECISION = 12;
    private static final int MAX_COEFFICIENT = 100000000;
    private static final int REGISTERS = 6;
    private static final int MAX_FACTOR = 9;
    private static final int MAX_SUBSTITUTED_POWER = 6;
    private static final int MAX_MODULUS = 12;
    private static final int MAX_EXPONENT = 3;
    private static final long VALUE_MODULUS = 1000003;
    private static final int PAIR_SIZE = 5;
    private static final int MAX_UNDO = 8;
    private static final int MAX_COUNTED = 60;
    private static final int MAX_LISTED = 16;
    private static final int PARTITIONS_OF_16 = 231;
    private static final int INPUT_SIZE = 60;
    private static final int NUMBER_DIGITS = 4;
    private static final int EXPONENT_DIGITS = 2;
    private static final int MALFORMED = -1000;
    /** 24 terms of a sign, nine digits, "q^" and two digits. */
    private static final int OUTPUT_SIZE = MAX_PRECISION * 14;
    private static final int SLOTS = 4;
    private static final int SLOT_SIZE = 40;

    private static final int BYTE = 0;
    private static final int SHORT = 1;
    private static final int INT = 2;
    private static final int LONG = 3;

    private static final int NO_FILTER = 0;
    private static final int DISTINCT = 1;
    private static final int ODD = 2;
    private static final int GAP = 3;
    private static final int NO_ONES = 4;
    private static final int EVEN = 5;
    private static final int SELF_CONJUGATE = 6;

    private final State state = new State();
    private final State saved = new State();
    private boolean hasSnapshot = false;
    /** A new pair is made here first, so that one that overflows leaves the state as it is. */
    private final Pair draft = new Pair();
    private final Wide result = new Wide();
    private final Wide term = new Wide();
    private final long[] ways = new long[MAX_COUNTED + 1];
    private final Partitions partitions = new Partitions();
    private final Input input = new Input();
    private final Output output = new Output();
    private final Slot[] slots = new Slot[SLOTS];

    public BaileyChain() {
        for (int i = 0; i < SLOTS; i++) {
            slots[i] = new Slot();
        }
        startAgain(FIRST_PRECISION);
    }

    public int reset(int precision) {
        if (precision < MIN_PRECISION || precision > MAX_PRECISION) {
            return BAD_ARGUMENT;
        }
        int previous = state.length;
        startAgain(precision);
        return previous;
    }

    public int precision() {
        return state.length;
    }

    public int setCoefficient(int register, int power, int value) {
        if (!isRegister(register)) {
            return NO_SUCH_REGISTER;
        }
        if (!isPower(power)) {
            return BAD_ARGUMENT;
        }
        if (value < -MAX_COEFFICIENT || value > MAX_COEFFICIENT) {
            return OVERFLOW;
        }
        int[] row = state.registers[register];
        if (row[power] == value) {
            return 0;
        }
        row[power] = value;
        return 1;
    }

    public long coefficient(int register, int power) {
        if (!isRegister(register) || !isPower(power)) {
            return NO_VALUE;
        }
        return state.registers[register][power];
    }

    public int order(int register) {
        if (!isRegister(register)) {
            return NO_SUCH_REGISTER;
        }
        return lowestPower(state.registers[register]);
    }

    public int degree(int register) {
        if (!isRegister(register)) {
            return NO_SUCH_REGISTER;
        }
        return highestPower(state.registers[register]);
    }

    public int add(int target, int left, int right, int factor) {
        if (!isRegister(target) || !isRegister(left) || !isRegister(right)) {
            return NO_SUCH_REGISTER;
        }
        if (factor < -MAX_FACTOR || factor > MAX_FACTOR) {
            return BAD_ARGUMENT;
        }
        result.setZero(state.length);
        result.plusRow(state.registers[left], 1);
        result.plusRow(state.registers[right], factor);
        return keepResult(target);
    }

    public int multiply(int target, int left, int right) {
        if (!isRegister(target) || !isRegister(left) || !isRegister(right)) {
            return NO_SUCH_REGISTER;
        }
        result.setProduct(state.registers[left], state.registers[right], state.length);
        return keepResult(target);
    }

    public int divide(int target, int dividend, int divisor) {
        if (!isRegister(target) || !isRegister(dividend) || !isRegister(divisor)) {
            return NO_SUCH_REGISTER;
        }
        int constant = state.registers[divisor][0];
        if (constant != 1 && constant != -1) {
            return NOT_INVERTIBLE;
        }
        if (!result.setQuotient(state.registers[dividend], state.registers[divisor], state.length)) {
            return OVERFLOW;
        }
        return keepResult(target);
    }

    public int shift(int target, int source, int power) {
        if (!isRegister(target) || !isRegister(source)) {
            return NO_SUCH_REGISTER;
        }
        if (power < 0 || power >= MAX_PRECISION) {
            return BAD_ARGUMENT;
        }
        result.setZero(state.length);
        result.plusShifted(state.registers[source], power);
        return keepResult(target);
    }

    public int substitute(int target, int source, int power) {
        if (!isRegister(target) || !isRegister(source)) {
            return NO_SUCH_REGISTER;
        }
        if (power < 1 || power > MAX_SUBSTITUTED_POWER) {
            return BAD_ARGUMENT;
        }
        int[] row = state.registers[source];
        result.setZero(state.length);
        for (int k = 0; k < state.length; k++) {
            result.plusTerm(k * power, row[k]);
        }
        return keepResult(target);
    }

    public int product(int target, int modulus, int residues, int exponent) {
        if (!isRegister(target)) {
            return NO_SUCH_REGISTER;
        }
        if (!isResidueSet(modulus, residues) || exponent < -MAX_EXPONENT || exponent > MAX_EXPONENT) {
            return BAD_ARGUMENT;
        }
        result.setZero(state.length);
        result.plusTerm(0, 1);
        for (int i = 1; i < state.length; i++) {
            if (isInResidueSet(i, modulus, residues)) {
                result.timesFactorToThe(i, exponent);
            }
        }
        return keepResult(target);
    }

    public int firstDifference(int left, int right) {
        if (!isRegister(left) || !isRegister(right)) {
            return NO_SUCH_REGISTER;
        }
        return lowestDifference(state.registers[left], state.registers[right]);
    }

    public int valueAt(int register, int x) {
        if (!isRegister(register)) {
            return NO_SUCH_REGISTER;
        }
        int[] row = state.registers[register];
        long point = Math.floorMod((long) x, VALUE_MODULUS);
        long value = 0;
        for (int k = state.length - 1; k >= 0; k--) {
            value = Math.floorMod(value * point + row[k], VALUE_MODULUS);
        }
        return (int) value;
    }

    public int statistic(int register, int kind) {
        if (!isRegister(register)) {
            return NO_SUCH_REGISTER;
        }
        int[] row = state.registers[register];
        switch (kind) {
            case 0:
                return countNonzero(row);
            case 1:
                return countNegative(row);
            case 2:
                return countSignChanges(row);
            case 3:
                return largestAbsolute(row);
            case 4:
                return countRecords(row);
            default:
                return BAD_ARGUMENT;
        }
    }

    public int registerByRank(int rank) {
        if (rank < 0 || rank >= REGISTERS) {
            return BAD_ARGUMENT;
        }
        for (int register = 0; register < REGISTERS; register++) {
            if (rankOf(register) == rank) {
                return register;
            }
        }
        return BAD_ARGUMENT;
    }

    public int unitPair(int r) {
        if (r != 0 && r != 1) {
            return BAD_ARGUMENT;
        }
        setUnitPair(r);
        return 0;
    }

    public int setAlpha(int n, int register) {
        return setInPair(n, register, true);
    }

    public int setBeta(int n, int register) {
        return setInPair(n, register, false);
    }

    public int step() {
        if (!draft.setNextOf(state.pair, state.length, result, term)) {
            return OVERFLOW;
        }
        state.goOnTo(draft);
        return state.steps;
    }

    public int undoStep() {
        if (state.rememberedCount == 0) {
            return NOTHING_TO_UNDO;
        }
        state.goBack();
        return state.steps;
    }

    public int chainLength() {
        return state.steps;
    }

    public int copyAlpha(int target, int n) {
        return copyToRegister(target, n, state.pair.alpha);
    }

    public int copyBeta(int target, int n) {
        return copyToRegister(target, n, state.pair.beta);
    }

    public int sumSide(int target) {
        if (!isRegister(target)) {
            return NO_SUCH_REGISTER;
        }
        sumWithStepPowers(state.pair.beta);
        return keepResult(target);
    }

    public int productSide(int target) {
        if (!isRegister(target)) {
            return NO_SUCH_REGISTER;
        }
        sumWithStepPowers(state.pair.alpha);
        // Factors at the power N and above change nothing, so N of them stand for all.
        result.overFactors(state.pair.r + 1, state.length);
        return keepResult(target);
    }

    public long countPartitions(int n, int modulus, int residues) {
        if (n < 0 || n > MAX_COUNTED || !isResidueSet(modulus, residues)) {
            return NO_VALUE;
        }
        Arrays.fill(ways, 0);
        ways[0] = 1;
        for (int size = 1; size <= n; size++) {
            if (isInResidueSet(size, modulus, residues)) {
                for (int k = size; k <= n; k++) {
                    ways[k] += ways[k - size];
                }
            }
        }
        return ways[n];
    }

    public int listPartitions(int n) {
        if (n < 1 || n > MAX_LISTED) {
            return BAD_ARGUMENT;
        }
        partitions.fillWith(n);
        return partitions.count;
    }

    public int filterPartitions() {
        int filter = filterInInput();
        input.length = 0;
        if (filter == NO_FILTER) {
            return BAD_ARGUMENT;
        }
        partitions.keepOnly(filter);
        return partitions.count;
    }

    public int part(int index, int part) {
        if (index < 0 || part < 0) {
            return BAD_ARGUMENT;
        }
        if (index >= partitions.count || part >= MAX_LISTED) {
            return NONE;
        }
        int value = partitions.at(index, part);
        return value == 0 ? NONE : value;
    }

    public int append(int bytes, int count) {
        if (count < 1 || count > 4) {
            return BAD_ARGUMENT;
        }
        for (int i = 0; i < count; i++) {
            if (byteOf(bytes, i) > 127) {
                return BAD_ARGUMENT;
            }
        }
        if (input.length + count > INPUT_SIZE) {
            return BUFFER_FULL;
        }
        for (int i = count - 1; i >= 0; i--) {
            input.put(byteOf(bytes, i));
        }
        return input.length;
    }

    public int clearInput() {
        int held = input.length;
        input.length = 0;
        return held;
    }

    public int parseSeries(int register) {
        if (!isRegister(register)) {
            return NO_SUCH_REGISTER;
        }
        result.setZero(state.length);
        boolean wellFormed = input.readSeries(result);
        input.length = 0;
        if (!wellFormed) {
            return MALFORMED - input.position;
        }
        return keepResult(register);
    }

    public int format(int register) {
        if (!isRegister(register)) {
            return NO_SUCH_REGISTER;
        }
        output.writeSeries(state.registers[register], state.length);
        return output.length;
    }

    public int outputByte(int index) {
        if (index < 0 || index >= output.length) {
            return NONE;
        }
        return output.bytes[index];
    }

    public int allocate(int slot, int type, int size) {
        if (!isSlot(slot) || type < BYTE || type > LONG || size > SLOT_SIZE) {
            return BAD_ARGUMENT;
        }
        if (size < 0) {
            return NEGATIVE_SIZE;
        }
        slots[slot].fillNew(type, size);
        return size;
    }

    public int release(int slot) {
        if (!isSlot(slot)) {
            return BAD_ARGUMENT;
        }
        if (!slots[slot].held) {
            return 0;
        }
        slots[slot].held = false;
        return 1;
    }

    public int putElement(int slot, int index, long value) {
        if (!isSlot(slot)) {
            return BAD_ARGUMENT;
        }
        Slot array = slots[slot];
        if (!array.held) {
            return EMPTY_SLOT;
        }
        if (!array.hasIndex(index)) {
            return INDEX_OUT_OF_RANGE;
        }
        array.elements[index] = array.narrowed(value);
        return 1;
    }

    public long element(int slot, int index) {
        if (!isSlot(slot)) {
            return NO_VALUE;
        }
        Slot array = slots[slot];
        if (!array.held || !array.hasIndex(index)) {
            return NO_VALUE;
        }
        return array.elements[index];
    }

    public int copyElements(int source, int sourceIndex, int target, int targetIndex, int count) {
        if (!isSlot(source) || !isSlot(target)) {
            return BAD_ARGUMENT;
        }
        Slot from = slots[source];
        Slot to = slots[target];
        if (!from.held || !to.held) {
            return EMPTY_SLOT;
        }
        if (from.type != to.type) {
            return WRONG_TYPE;
        }
        if (!from.hasRange(sourceIndex, count) || !to.hasRange(targetIndex, count)) {
            return INDEX_OUT_OF_RANGE;
        }
        System.arraycopy(from.elements, sourceIndex, to.elements, targetIndex, count);
        return count;
    }

    public int compareWithArray(int slot, int register) {
        if (!isSlot(slot)) {
            return BAD_ARGUMENT;
        }
        if (!isRegister(register)) {
            return NO_SUCH_REGISTER;
        }
        Slot array = slots[slot];
        if (!array.held) {
            return EMPTY_SLOT;
        }
        int[] row = state.registers[register];
        int common = Math.min(array.size, state.length);
        for (int i = 0; i < common; i++) {
            if (array.elements[i] != row[i]) {
                return i;
            }
        }
        return array.size == state.length ? NONE : common;
    }

    public int snapshot() {
        saved.copyFrom(state);
        hasSnapshot = true;
        return state.length;
    }

    public int restore() {
        if (!hasSnapshot) {
            return NOTHING_TO_UNDO;
        }
        state.copyFrom(saved);
        return state.length;
    }

    private void startAgain(int length) {
        state.length = length;
        for (int i = 0; i < REGISTERS; i++) {
            Arrays.fill(state.registers[i], 0);
        }
        setUnitPair(0);
    }

    private void setUnitPair(int r) {
        // No coefficient of the unit pair comes near the range's end, so this never overflows.
        draft.setUnit(r, state.length, result, term);
        state.setPair(draft);
    }

    /** Sets alpha(n) or beta(n); the other kind of series follows, and may overflow. */
    private int setInPair(int n, int register, boolean isAlpha) {
        if (!isRegister(register)) {
            return NO_SUCH_REGISTER;
        }
        if (!isPairIndex(n)) {
            return BAD_ARGUMENT;
        }
        draft.copyFrom(state.pair);
        int[] row = state.registers[register];
        int[] old = isAlpha ? draft.alpha[n] : draft.beta[n];
        boolean changes = lowestDifference(old, row) != NONE;
        copyRow(row, old);
        boolean fits = isAlpha
                ? draft.deriveBeta(state.length, result, term)
                : draft.deriveAlpha(state.length, result, term);
        if (!fits) {
            return OVERFLOW;
        }
        state.setPair(draft);
        return changes ? 1 : 0;
    }

    private int copyToRegister(int target, int n, int[][] rows) {
        if (!isRegister(target)) {
            return NO_SUCH_REGISTER;
        }
        if (!isPairIndex(n)) {
            return BAD_ARGUMENT;
        }
        copyRow(rows[n], state.registers[target]);
        return countNonzero(state.registers[target]);
    }

    private static boolean isRegister(int register) {
        return register >= 0 && register < REGISTERS;
    }

    private boolean isPower(int power) {
        return power >= 0 && power < state.length;
    }

    private static boolean isPairIndex(int n) {
        return n >= 0 && n < PAIR_SIZE;
    }

    private static boolean isSlot(int slot) {
        return slot >= 0 && slot < SLOTS;
    }

    private static boolean isResidueSet(int modulus, int residues) {
        return modulus >= 1 && modulus <= MAX_MODULUS && residues >= 0 && residues < 1 << modulus;
    }

    private static boolean isInResidueSet(int number, int modulus, int residues) {
        return modulus >= 1 && ((residues >> (number % modulus)) & 1) == 1;
    }

    /** The byte of an integer at a place, the lowest at place 0. */
    private static int byteOf(int bytes, int place) {
        return (bytes >> (8 * place)) & 255;
    }

    /** Stores the result in a register, unless it overflows. */
    private int keepResult(int target) {
        if (!result.fits()) {
            return OVERFLOW;
        }
        result.writeTo(state.registers[target]);
        return countNonzero(state.registers[target]);
    }

    /** Sets the result to the sum of a^n q^(n n) times the series n. */
    private void sumWithStepPowers(int[][] rows) {
        result.setZero(state.length);
        for (int n = 0; n < PAIR_SIZE; n++) {
            result.plusShifted(rows[n], stepPower(state.pair.r, n));
        }
    }

    /** The power of q in a^n q^(n n), where a is q^r. */
    private static int stepPower(int r, int n) {
        return r * n + n * n;
    }

    private static void copyRow(int[] from, int[] to) {
        System.arraycopy(from, 0, to, 0, MAX_PRECISION);
    }

    private int lowestPower(int[] row) {
        for (int k = 0; k < state.length; k++) {
            if (row[k] != 0) {
                return k;
            }
        }
        return NONE;
    }

    private int highestPower(int[] row) {
        for (int k = state.length - 1; k >= 0; k--) {
            if (row[k] != 0) {
                return k;
            }
        }
        return NONE;
    }

    private int lowestDifference(int[] left, int[] right) {
        for (int k = 0; k < state.length; k++) {
            if (left[k] != right[k]) {
                return k;
            }
        }
        return NONE;
    }

    private int countNonzero(int[] row) {
        int count = 0;
        for (int k = 0; k < state.length; k++) {
            if (row[k] != 0) {
                count++;
            }
        }
        return count;
    }

    private int countNegative(int[] row) {
        int count = 0;
        for (int k = 0; k < state.length; k++) {
            if (row[k] < 0) {
                count++;
            }
        }
        return count;
    }

    private int countSignChanges(int[] row) {
        int count = 0;
        int lastSign = 0;
        for (int k = 0; k < state.length; k++) {
            int sign = Integer.compare(row[k], 0);
            if (sign != 0) {
                if (sign == -lastSign) {
                    count++;
                }
                lastSign = sign;
            }
        }
        return count;
    }

    private int largestAbsolute(int[] row) {
        int largest = 0;
        for (int k = 0; k < state.length; k++) {
            largest = Math.max(largest, Math.abs(row[k]));
        }
        return largest;
    }

    private int countRecords(int[] row) {
        int count = 1;
        int largest = row[0];
        for (int k = 1; k < state.length; k++) {
            if (row[k] > largest) {
                largest = row[k];
                count++;
            }
        }
        return count;
    }

    private int rankOf(int register) {
        int ahead = 0;
        for (int other = 0; other < REGISTERS; other++) {
            if (comesBefore(other, register)) {
                ahead++;
            }
        }
        return ahead;
    }

    private boolean comesBefore(int register, int other) {
        int low = lowestPower(state.registers[register]);
        int otherLow = lowestPower(state.registers[other]);
        if (low != otherLow) {
            return low != NONE && (otherLow == NONE || low < otherLow);
        }
        int high = highestPower(state.registers[register]);
        int otherHigh = highestPower(state.registers[other]);
        if (high != otherHigh) {
            return high > otherHigh;
        }
        return register < other;
    }

    private int filterInInput() {
        if (input.holds("distinct")) {
            return DISTINCT;
        }
        if (input.holds("odd")) {
            return ODD;
        }
        if (input.holds("gap")) {
            return GAP;
        }
        if (input.holds("noones")) {
            return NO_ONES;
        }
        if (input.holds("even")) {
            return EVEN;
        }
        if (input.holds("selfconjugate")) {
            return SELF_CONJUGATE;
        }
        return NO_FILTER;
    }

    /**
     * A series on the way to a result. Its coefficients are longs: with operands in the range of
     * coefficients, at most 24 of them, no sum that is formed here comes near a long's end (the
     * largest stay below 10^18), so that only the result itself is held against the range.
     */
    private static final class Wide {
        final long[] coefficients = new long[MAX_PRECISION];
        int length = MIN_PRECISION;

        void setZero(int newLength) {
            length = newLength;
            Arrays.fill(coefficients, 0);
        }

        void plusTerm(int power, int coefficient) {
            if (power >= 0 && power < length) {
                coefficients[power] += coefficient;
            }
        }

        void plusRow(int[] row, int factor) {
            for (int k = 0; k < length; k++) {
                coefficients[k] += (long) factor * row[k];
            }
        }

        /** Adds the row times q to a power, which is at least 0. */
        void plusShifted(int[] row, int power) {
            for (int k = 0; k + power < length; k++) {
                coefficients[k + power] += row[k];
            }
        }

        void plusWide(Wide other, int factor) {
            for (int k = 0; k < length; k++) {
                coefficients[k] += factor * other.coefficients[k];
            }
        }

        void setProduct(int[] left, int[] right, int newLength) {
            setZero(newLength);
            for (int i = 0; i < length; i++) {
                for (int k = i; k < length; k++) {
                    coefficients[k] += (long) left[i] * right[k - i];
                }
            }
        }

        /** For a divisor with the constant term 1 or -1; answers false at the first overflow. */
        boolean setQuotient(int[] dividend, int[] divisor, int newLength) {
            setZero(newLength);
            for (int k = 0; k < length; k++) {
                long rest = dividend[k];
                for (int i = 1; i <= k; i++) {
                    rest -= divisor[i] * coefficients[k - i];
                }
                coefficients[k] = rest * divisor[0];
                if (!isInRange(coefficients[k])) {
                    return false;
                }
            }
            return true;
        }

        /** Multiplies by (1 - q^power), for a power of at least 1. */
        void timesFactor(int power) {
            for (int k = length - 1; k >= power; k--) {
                coefficients[k] -= coefficients[k - power];
            }
        }

        /** Divides by (1 - q^power), for a power of at least 1. */
        void overFactor(int power) {
            for (int k = power; k < length; k++) {
                coefficients[k] += coefficients[k - power];
            }
        }

        void timesFactorToThe(int power, int exponent) {
            for (int i = 0; i < exponent; i++) {
                timesFactor(power);
            }
            for (int i = 0; i > exponent; i--) {
                overFactor(power);
            }
        }

        /** Multiplies by (q^first)count. */
        void timesFactors(int first, int count) {
            for (int i = 0; i < count; i++) {
                timesFactor(first + i);
            }
        }

        /** Divides by (q^first)count. */
        void overFactors(int first, int count) {
            for (int i = 0; i < count; i++) {
                overFactor(first + i);
            }
        }

        boolean fits() {
            for (int k = 0; k < length; k++) {
                if (!isInRange(coefficients[k])) {
                    return false;
                }
            }
            return true;
        }

        private static boolean isInRange(long value) {
            return value >= -MAX_COEFFICIENT && value <= MAX_COEFFICIENT;
        }

        /** For a series that fits. Writes zeros at the length and above. */
        void writeTo(int[] row) {
            for (int k = 0; k < MAX_PRECISION; k++) {
                row[k] = k < length ? (int) coefficients[k] : 0;
            }
        }
    }

    /** A Bailey pair with a = q^r. */
    private static final class Pair {
        int r = 0;
        final int[][] alpha = new int[PAIR_SIZE][MAX_PRECISION];
        final int[][] beta = new int[PAIR_SIZE][MAX_PRECISION];

        void copyFrom(Pair other) {
            r = other.r;
            for (int n = 0; n < PAIR_SIZE; n++) {
                copyRow(other.alpha[n], alpha[n]);
                copyRow(other.beta[n], beta[n]);
            }
        }

        void setUnit(int newR, int length, Wide sum, Wide term) {
            r = newR;
            for (int n = 0; n < PAIR_SIZE; n++) {
                Arrays.fill(beta[n], 0);
            }
            beta[0][0] = 1;
            deriveAlpha(length, sum, term);
        }

        /** Makes beta follow from alpha; answers false at an overflow. */
        boolean deriveBeta(int length, Wide sum, Wide term) {
            for (int n = 0; n < PAIR_SIZE; n++) {
                sum.setZero(length);
                for (int j = 0; j <= n; j++) {
                    setRelationTerm(term, n, j, length);
                    sum.plusWide(term, 1);
                }
                if (!sum.fits()) {
                    return false;
                }
                sum.writeTo(beta[n]);
            }
            return true;
        }

        /** Makes alpha follow from beta, each from those before it; answers false at an overflow. */
        boolean deriveAlpha(int length, Wide sum, Wide term) {
            for (int n = 0; n < PAIR_SIZE; n++) {
                sum.setZero(length);
                sum.plusRow(beta[n], 1);
                for (int j = 0; j < n; j++) {
                    setRelationTerm(term, n, j, length);
                    sum.plusWide(term, -1);
                }
                sum.timesFactors(r + 1, n + n);
                if (!sum.fits()) {
                    return false;
                }
                sum.writeTo(alpha[n]);
            }
            return true;
        }

        /** Sets the term to alpha(j) divided by (q)(n - j) and (a q)(n + j). */
        private void setRelationTerm(Wide term, int n, int j, int length) {
            term.setZero(length);
            term.plusRow(alpha[j], 1);
            term.overFactors(1, n - j);
            term.overFactors(r + 1, n + j);
        }

        /** Sets this pair to the one a step after another; answers false at an overflow. */
        boolean setNextOf(Pair before, int length, Wide sum, Wide term) {
            r = before.r;
            for (int n = 0; n < PAIR_SIZE; n++) {
                sum.setZero(length);
                sum.plusShifted(before.alpha[n], stepPower(r, n));
                sum.writeTo(alpha[n]);
                sum.setZero(length);
                for (int j = 0; j <= n; j++) {
                    term.setZero(length);
                    term.plusShifted(before.beta[j], stepPower(r, j));
                    term.overFactors(1, n - j);
                    sum.plusWide(term, 1);
                }
                if (!sum.fits()) {
                    return false;
                }
                sum.writeTo(beta[n]);
            }
            return true;
        }
    }

    /** What a snapshot keeps. All rows are 0 at the precision and above. */
    private static final class State {
        /** The precision N. */
        int length = FIRST_PRECISION;
        final int[][] registers = new int[REGISTERS][MAX_PRECISION];
        final Pair pair = new Pair();
        int steps = 0;
        /** The pairs before the last steps, the oldest first. */
        final Pair[] remembered = new Pair[MAX_UNDO];
        int rememberedCount = 0;

        State() {
            for (int i = 0; i < MAX_UNDO; i++) {
                remembered[i] = new Pair();
            }
        }

        void copyFrom(State other) {
            length = other.length;
            for (int i = 0; i < REGISTERS; i++) {
                copyRow(other.registers[i], registers[i]);
            }
            pair.copyFrom(other.pair);
            steps = other.steps;
            rememberedCount = other.rememberedCount;
            for (int i = 0; i < rememberedCount; i++) {
                remembered[i].copyFrom(other.remembered[i]);
            }
        }

        void setPair(Pair newPair) {
            pair.copyFrom(newPair);
            steps = 0;
            rememberedCount = 0;
        }

        void goOnTo(Pair next) {
            if (rememberedCount == MAX_UNDO) {
                forgetOldest();
            }
            remembered[rememberedCount].copyFrom(pair);
            rememberedCount++;
            pair.copyFrom(next);
            steps++;
        }

        private void forgetOldest() {
            Pair oldest = remembered[0];
            for (int i = 1; i < MAX_UNDO; i++) {
                remembered[i - 1] = remembered[i];
            }
            // Its rows are used again for the next pair.
            remembered[MAX_UNDO - 1] = oldest;
            rememberedCount = MAX_UNDO - 1;
        }

        void goBack() {
            if (rememberedCount > 0) {
                rememberedCount--;
                pair.copyFrom(remembered[rememberedCount]);
                steps--;
            }
        }
    }

    /** The partition list: a row of 16 places for each partition, with zeros after its parts. */
    private static final class Partitions {
        final byte[] places = new byte[PARTITIONS_OF_16 * MAX_LISTED];
        int count = 0;

        int at(int index, int place) {
            return places[index * MAX_LISTED + place];
        }

        private void put(int index, int place, int value) {
            places[index * MAX_LISTED + place] = (byte) value;
        }

        void fillWith(int n) {
            fillFrom(0, 0, n, n);
            count = 1;
            while (count < PARTITIONS_OF_16 && makeNext(count)) {
                count++;
            }
        }

        /** Writes parts up to a largest one, as large as can be, and zeros after them. */
        private void fillFrom(int index, int firstPlace, int largest, int total) {
            int rest = total;
            for (int place = firstPlace; place < MAX_LISTED; place++) {
                int value = Math.min(largest, rest);
                put(index, place, value);
                rest -= value;
            }
        }

        /** Makes the partition that follows the one before the index, if there is one. */
        private boolean makeNext(int index) {
            int last = lastPlaceAboveOne(index - 1);
            if (last < 0) {
                return false;
            }
            for (int place = 0; place < last; place++) {
                put(index, place, at(index - 1, place));
            }
            int rest = 0;
            for (int place = last; place < MAX_LISTED; place++) {
                rest += at(index - 1, place);
            }
            fillFrom(index, last, at(index - 1, last) - 1, rest);
            return true;
        }

        private int lastPlaceAboveOne(int index) {
            for (int place = MAX_LISTED - 1; place >= 0; place--) {
                if (at(index, place) > 1) {
                    return place;
                }
            }
            return -1;
        }

        void keepOnly(int filter) {
            int kept = 0;
            for (int index = 0; index < count; index++) {
                if (passes(index, filter)) {
                    System.arraycopy(places, index * MAX_LISTED, places, kept * MAX_LISTED, MAX_LISTED);
                    kept++;
                }
            }
            count = kept;
        }

        private boolean passes(int index, int filter) {
            switch (filter) {
                case DISTINCT:
                    return hasGaps(index, 1);
                case ODD:
                    return hasOddPartsOnly(index);
                case GAP:
                    return hasGaps(index, 2);
                case NO_ONES:
                    return countAtLeast(index, 1) == countAtLeast(index, 2);
                case EVEN:
                    return countAtLeast(index, 1) % 2 == 0;
                case SELF_CONJUGATE:
                    return isSelfConjugate(index);
                default:
                    return false;
            }
        }

        private boolean hasGaps(int index, int gap) {
            for (int place = 1; place < MAX_LISTED; place++) {
                int part = at(index, place);
                if (part > 0 && at(index, place - 1) - part < gap) {
                    return false;
                }
            }
            return true;
        }

        private boolean hasOddPartsOnly(int index) {
            for (int place = 0; place < MAX_LISTED; place++) {
                int part = at(index, place);
                if (part > 0 && part % 2 == 0) {
                    return false;
                }
            }
            return true;
        }

        private int countAtLeast(int index, int least) {
            int parts = 0;
            for (int place = 0; place < MAX_LISTED; place++) {
                if (at(index, place) >= least) {
                    parts++;
                }
            }
            return parts;
        }

        private boolean isSelfConjugate(int index) {
            for (int place = 0; place < MAX_LISTED; place++) {
                if (at(index, place) != countAtLeast(index, place + 1)) {
                    return false;
                }
            }
            return true;
        }
    }

    /** The input buffer, and the parser that reads it from left to right. */
    private static final class Input {
        final byte[] bytes = new byte[INPUT_SIZE];
        int length = 0;
        /** How far the parser has come; at a malformed text, the position of the fault. */
        int position = 0;

        void put(int value) {
            if (length < INPUT_SIZE) {
                bytes[length] = (byte) value;
                length++;
            }
        }

        boolean holds(String word) {
            if (word.length() != length) {
                return false;
            }
            for (int i = 0; i < length; i++) {
                if (bytes[i] != word.charAt(i)) {
                    return false;
                }
            }
            return true;
        }

        /** Adds the terms of the text to the sum; answers false if the text is malformed. */
        boolean readSeries(Wide sum) {
            position = 0;
            boolean negative = takes('-');
            if (!readTerm(sum, negative)) {
                return false;
            }
            // Each round takes a byte at least, so the buffer's size is rounds enough.
            for (int round = 0; round < INPUT_SIZE && position < length; round++) {
                negative = takes('-');
                if (!negative && !takes('+')) {
                    return false;
                }
                if (!readTerm(sum, negative)) {
                    return false;
                }
            }
            return true;
        }

        private boolean readTerm(Wide sum, boolean negative) {
            int number = readDigits(NUMBER_DIGITS);
            int power = 0;
            if (takes('q')) {
                power = readExponent();
            } else if (number < 0) {
                return false;
            }
            if (power < 0) {
                return false;
            }
            int coefficient = number < 0 ? 1 : number;
            sum.plusTerm(power, negative ? -coefficient : coefficient);
            return true;
        }

        /** The power behind a "q"; -1 if its digits are missing. */
        private int readExponent() {
            return takes('^') ? readDigits(EXPONENT_DIGITS) : 1;
        }

        /** The number that stands next, of at most so many digits; -1 if there is none. */
        private int readDigits(int most) {
            int value = -1;
            for (int i = 0; i < most && position < length; i++) {
                int digit = bytes[position] - '0';
                if (digit < 0 || digit > 9) {
                    return value;
                }
                value = Math.max(value, 0) * 10 + digit;
                position++;
            }
            return value;
        }

        private boolean takes(char sign) {
            if (position < length && bytes[position] == sign) {
                position++;
                return true;
            }
            return false;
        }
    }

    /** The output buffer. */
    private static final class Output {
        final byte[] bytes = new byte[OUTPUT_SIZE];
        int length = 0;

        void writeSeries(int[] row, int precision) {
            length = 0;
            for (int k = 0; k < precision; k++) {
                if (row[k] != 0) {
                    writeTerm(row[k], k);
                }
            }
            if (length == 0) {
                put('0');
            }
        }

        private void writeTerm(int coefficient, int power) {
            if (coefficient < 0) {
                put('-');
            } else if (length > 0) {
                put('+');
            }
            int size = Math.abs(coefficient);
            if (size != 1 || power == 0) {
                writeNumber(size);
            }
            if (power >= 1) {
                put('q');
            }
            if (power >= 2) {
                put('^');
                writeNumber(power);
            }
        }

        /** Writes a number from 1 to the largest coefficient. */
        private void writeNumber(int number) {
            for (int unit = MAX_COEFFICIENT; unit >= 1; unit /= 10) {
                if (number >= unit) {
                    put('0' + number / unit % 10);
                }
            }
        }

        private void put(int value) {
            if (length < OUTPUT_SIZE) {
                bytes[length] = (byte) value;
                length++;
            }
        }
    }

    /** An array slot. Its elements stand as longs, narrowed to the element type. */
    private static final class Slot {
        final long[] elements = new long[SLOT_SIZE];
        boolean held = false;
        int type = BYTE;
        int size = 0;

        void fillNew(int newType, int newSize) {
            Arrays.fill(elements, 0);
            held = true;
            type = newType;
            size = newSize;
        }

        boolean hasIndex(int index) {
            return index >= 0 && index < size;
        }

        boolean hasRange(int first, int count) {
            return first >= 0 && count >= 0 && (long) first + count <= size;
        }

        long narrowed(long value) {
            switch (type) {
                case BYTE:
                    return (byte) value;
                case SHORT:
                    return (short) value;
                case INT:
                    return (int) value;
                default:
                    return value;
            }
        }
    }
}
