import java.util.function.Consumer;
import java.util.function.ToLongFunction;

/**
 * Each call that the document refuses, on a new, a used and a full object: that of several wrong arguments the one
 * that is checked first gives the answer, and that the call changes nothing that later calls show.
 */
public final class RefusalTests extends Check {
    private static final int[] BAD_REGISTERS = {-1, 6};
    private static final int[] BAD_SLOTS = {-1, 4};
    private static final int[] BAD_INDICES = {-1, 5};
    private static final int[] BAD_RESIDUES = {LOWEST, -1, 8, HIGHEST};
    private static final int EMPTY = BaileyChain.EMPTY_SLOT;
    private static final int OUTSIDE = BaileyChain.INDEX_OUT_OF_RANGE;

    public static void main(String[] args) {
        reset();
        coefficients();
        add();
        multiply();
        divide();
        shiftAndSubstitute();
        product();
        questions();
        settings();
        settingsThatOverflow();
        steps();
        copiesOfPairs();
        sides();
        partitions();
        append();
        consumed();
        output();
        allocate();
        elements();
        copyElements();
        compareWithArray();
        restore();
        end();
    }

    private static void refused(String call, long answer, ToLongFunction<BaileyChain> made) {
        Probe.refused(call, answer, x -> { }, made);
    }

    private static void refused(String call, long answer, Consumer<BaileyChain> before,
            ToLongFunction<BaileyChain> made) {
        Probe.refused(call, answer, before, made);
    }

    private static void reset() {
        about("Promise 2", "BAD_ARGUMENT if the precision is out of range");
        for (int precision : new int[] {LOWEST, -1, 0, 3, 25, HIGHEST}) {
            refused("reset(" + precision + ")", BAD, x -> x.reset(precision));
        }
    }

    private static void coefficients() {
        int[] badValues = {LOWEST, -LIMIT - 1, LIMIT + 1, HIGHEST};
        about("Promise 4", "NO_SUCH_REGISTER (checked first)");
        for (int register : BAD_REGISTERS) {
            refused("setCoefficient, register", NO_REGISTER, x -> x.setCoefficient(register, 0, 1));
            refused("setCoefficient, register and power", NO_REGISTER, x -> x.setCoefficient(register, -1, 1));
            refused("setCoefficient, register and value", NO_REGISTER, x -> x.setCoefficient(register, 0, LIMIT + 1));
            refused("setCoefficient, all three", NO_REGISTER, x -> x.setCoefficient(register, 24, -LIMIT - 1));
        }
        about("Promise 4", "BAD_ARGUMENT if the power is out of range (checked second)");
        refused("setCoefficient, power N", BAD, x -> x.setCoefficient(0, x.precision(), 1));
        refused("setCoefficient, power -1", BAD, x -> x.setCoefficient(5, -1, 1));
        for (int value : badValues) {
            refused("setCoefficient, power N and value", BAD, x -> x.setCoefficient(0, x.precision(), value));
            refused("setCoefficient, power -1 and value", BAD, x -> x.setCoefficient(0, -1, value));
        }
        about("Promise 4", "OVERFLOW if the value is outside the range of coefficients");
        for (int value : badValues) {
            refused("setCoefficient, value at 0", OVERFLOW, x -> x.setCoefficient(0, 0, value));
            refused("setCoefficient, value at N - 1", OVERFLOW, x -> x.setCoefficient(5, x.precision() - 1, value));
        }
        about("Promise 4", "0 if it already had this value");
        refused("setCoefficient to what it is", 0, x -> x.setCoefficient(4, 0, (int) x.coefficient(4, 0)));
        about("Promise 5", "NO_VALUE if the register or the power is out of range");
        for (int register : BAD_REGISTERS) {
            refused("coefficient, register", NO_VALUE, x -> x.coefficient(register, 0));
            refused("coefficient, register and power", NO_VALUE, x -> x.coefficient(register, -1));
        }
        refused("coefficient, power N", NO_VALUE, x -> x.coefficient(0, x.precision()));
        refused("coefficient, power -1", NO_VALUE, x -> x.coefficient(0, -1));
    }

    private static void add() {
        Consumer<BaileyChain> large = x -> set(x, 0, LIMIT);
        about("Promise 8", "NO_SUCH_REGISTER (checked first)");
        for (int register : BAD_REGISTERS) {
            for (int factor : new int[] {2, -10, 10}) {
                refused("add, target", NO_REGISTER, large, x -> x.add(register, 0, 0, factor));
                refused("add, left", NO_REGISTER, large, x -> x.add(1, register, 0, factor));
                refused("add, right", NO_REGISTER, large, x -> x.add(1, 0, register, factor));
            }
            refused("add, right and factor 0", NO_REGISTER, x -> x.add(1, 0, register, 0));
        }
        about("Promise 8", "BAD_ARGUMENT if the factor is out of range (checked second)");
        for (int factor : new int[] {LOWEST, -10, 10, HIGHEST}) {
            refused("add, factor", BAD, x -> x.add(1, 2, 2, factor));
            refused("add, factor and too large", BAD, large, x -> x.add(1, 0, 0, factor));
        }
        about("Promise 8", "OVERFLOW");
        refused("add, too large", OVERFLOW, large, x -> x.add(1, 0, 0, 1));
        refused("add to its operands, too large", OVERFLOW, large, x -> x.add(0, 0, 0, 9));
        refused("add, too small", OVERFLOW, large, x -> x.add(1, 0, 0, -3));
    }

    private static void multiply() {
        Consumer<BaileyChain> large = x -> set(x, 0, 10001, 1);
        about("Promise 9", "NO_SUCH_REGISTER (checked first)");
        for (int register : BAD_REGISTERS) {
            refused("multiply, target", NO_REGISTER, large, x -> x.multiply(register, 0, 0));
            refused("multiply, left", NO_REGISTER, large, x -> x.multiply(0, register, 0));
            refused("multiply, right", NO_REGISTER, large, x -> x.multiply(0, 0, register));
        }
        about("Promise 9", "OVERFLOW");
        refused("multiply", OVERFLOW, large, x -> x.multiply(1, 0, 0));
        refused("multiply to its operands", OVERFLOW, large, x -> x.multiply(0, 0, 0));
        refused("multiply at N - 1 only", OVERFLOW, x -> {
            set(x, 0, 0, LIMIT);
            set(x, 1);
            x.setCoefficient(1, x.precision() - 2, -2);
        }, x -> x.multiply(1, 0, 1));
    }

    private static void divide() {
        Consumer<BaileyChain> large = x -> {
            set(x, 0, 1, LIMIT);
            set(x, 1, 1);
        };
        about("Promise 10", "NO_SUCH_REGISTER (checked first)");
        for (int register : BAD_REGISTERS) {
            for (int constant : new int[] {0, 1, 2}) {
                Consumer<BaileyChain> divisor = large.andThen(x -> x.setCoefficient(0, 0, constant));
                refused("divide, target", NO_REGISTER, divisor, x -> x.divide(register, 1, 0));
                refused("divide, dividend", NO_REGISTER, divisor, x -> x.divide(1, register, 0));
            }
            refused("divide, divisor", NO_REGISTER, large, x -> x.divide(1, 0, register));
        }
        about("Promise 10", "NOT_INVERTIBLE (checked second)");
        for (int constant : new int[] {-LIMIT, -2, 0, 2, LIMIT}) {
            Consumer<BaileyChain> divisor = large.andThen(x -> x.setCoefficient(0, 0, constant));
            refused("divide", -4, divisor, x -> x.divide(2, 1, 0));
            refused("divide by itself", -4, divisor, x -> x.divide(0, 0, 0));
        }
        about("Promise 10", "OVERFLOW");
        refused("divide", OVERFLOW, large, x -> x.divide(2, 1, 0));
        refused("divide to the divisor", OVERFLOW, large, x -> x.divide(0, 1, 0));
        refused("divide to the dividend", OVERFLOW, large, x -> x.divide(1, 1, 0));
        refused("divide, too large at N - 1 only", OVERFLOW, x -> {
            set(x, 0, 1, 1);
            set(x, 1);
            x.setCoefficient(1, x.precision() - 2, LIMIT);
            x.setCoefficient(1, x.precision() - 1, -1);
        }, x -> x.divide(1, 1, 0));
    }

    private static void shiftAndSubstitute() {
        about("Promise 11", "NO_SUCH_REGISTER (checked first); BAD_ARGUMENT if the power is out of range");
        for (int register : BAD_REGISTERS) {
            for (int power : new int[] {-1, 0, 24}) {
                refused("shift, target", NO_REGISTER, x -> x.shift(register, 0, power));
                refused("shift, source", NO_REGISTER, x -> x.shift(0, register, power));
            }
        }
        for (int power : new int[] {LOWEST, -1, 24, HIGHEST}) {
            refused("shift, power", BAD, x -> x.shift(0, 5, power));
        }
        about("Promise 12", "NO_SUCH_REGISTER (checked first); BAD_ARGUMENT if the power is out of range");
        for (int register : BAD_REGISTERS) {
            for (int power : new int[] {0, 1, 7}) {
                refused("substitute, target", NO_REGISTER, x -> x.substitute(register, 0, power));
                refused("substitute, source", NO_REGISTER, x -> x.substitute(0, register, power));
            }
        }
        for (int power : new int[] {LOWEST, -1, 0, 7, HIGHEST}) {
            refused("substitute, power", BAD, x -> x.substitute(0, 5, power));
        }
    }

    private static void product() {
        about("Promise 13", "NO_SUCH_REGISTER (checked first)");
        for (int register : BAD_REGISTERS) {
            refused("product, target", NO_REGISTER, x -> x.product(register, 1, 1, 1));
            refused("product, target and modulus", NO_REGISTER, x -> x.product(register, 0, 0, 1));
            refused("product, target and residues", NO_REGISTER, x -> x.product(register, 1, 2, 1));
            refused("product, target and exponent", NO_REGISTER, x -> x.product(register, 1, 1, 4));
        }
        about("Promise 13", "BAD_ARGUMENT if another argument is out of range (checked second)");
        for (int modulus : new int[] {LOWEST, -1, 0, 13, 32, 33, HIGHEST}) {
            refused("product, modulus", BAD, x -> x.product(5, modulus, 0, 1));
            refused("product, modulus", BAD, x -> x.product(5, modulus, 1, 1));
        }
        for (int residues : BAD_RESIDUES) {
            refused("product, residues", BAD, x -> x.product(5, 3, residues, 1));
        }
        for (int exponent : new int[] {LOWEST, -4, 4, HIGHEST}) {
            refused("product, exponent", BAD, x -> x.product(5, 5, 18, exponent));
            refused("product of nothing, exponent", BAD, x -> x.product(5, 5, 0, exponent));
        }
    }

    private static void questions() {
        for (int register : BAD_REGISTERS) {
            about("Promise 6", "NO_SUCH_REGISTER");
            refused("order", NO_REGISTER, x -> x.order(register));
            about("Promise 7", "NO_SUCH_REGISTER");
            refused("degree", NO_REGISTER, x -> x.degree(register));
            about("Promise 14", "NO_SUCH_REGISTER");
            refused("firstDifference, left", NO_REGISTER, x -> x.firstDifference(register, 0));
            refused("firstDifference, right", NO_REGISTER, x -> x.firstDifference(0, register));
            refused("firstDifference, both", NO_REGISTER, x -> x.firstDifference(register, register));
            about("Promise 15", "NO_SUCH_REGISTER");
            refused("valueAt", NO_REGISTER, x -> x.valueAt(register, 1));
            about("Promise 16", "NO_SUCH_REGISTER (checked first)");
            for (int kind : new int[] {-1, 0, 5}) {
                refused("statistic", NO_REGISTER, x -> x.statistic(register, kind));
            }
        }
        about("Promise 16", "BAD_ARGUMENT if the kind is out of range");
        for (int kind : new int[] {LOWEST, -1, 5, HIGHEST}) {
            refused("statistic", BAD, x -> x.statistic(0, kind));
        }
        about("Promise 17", "BAD_ARGUMENT if the rank is out of range");
        for (int rank : new int[] {LOWEST, -1, 6, HIGHEST}) {
            refused("registerByRank", BAD, x -> x.registerByRank(rank));
        }
    }

    private static void settings() {
        about("Promise 18", "BAD_ARGUMENT if r is out of range");
        for (int r : new int[] {LOWEST, -1, 2, HIGHEST}) {
            refused("unitPair", BAD, x -> x.unitPair(r));
        }
        for (int register : BAD_REGISTERS) {
            for (int n : new int[] {-1, 0, 4, 5}) {
                about("Promise 19", "NO_SUCH_REGISTER (checked first)");
                refused("setAlpha", NO_REGISTER, x -> x.setAlpha(n, register));
                about("Promise 20", "NO_SUCH_REGISTER (checked first)");
                refused("setBeta", NO_REGISTER, x -> x.setBeta(n, register));
            }
        }
        Consumer<BaileyChain> large = x -> set(x, 0, LIMIT, LIMIT, LIMIT);
        for (int n : new int[] {LOWEST, -1, 5, HIGHEST}) {
            about("Promise 19", "BAD_ARGUMENT if n is out of range (checked second)");
            refused("setAlpha", BAD, x -> x.setAlpha(n, 1));
            refused("setAlpha, too large", BAD, large, x -> x.setAlpha(n, 0));
            about("Promise 20", "BAD_ARGUMENT if n is out of range (checked second)");
            refused("setBeta", BAD, x -> x.setBeta(n, 1));
            refused("setBeta, too large", BAD, large, x -> x.setBeta(n, 0));
        }
    }

    private static void settingsThatOverflow() {
        for (int index = 0; index < 5; index++) {
            int n = index;
            about("Promise 19", "OVERFLOW if a coefficient of any beta would overflow");
            refused("setAlpha", OVERFLOW, x -> set(x, 0, LIMIT), x -> x.setAlpha(n, 0));
            refused("setAlpha", OVERFLOW, x -> set(x, 0, -LIMIT), x -> x.setAlpha(n, 0));
            about("Promise 20", "OVERFLOW if a coefficient of any alpha would overflow");
            int[] row = n == 0 ? new int[] {LIMIT, LIMIT} : new int[] {LIMIT, 0, -LIMIT};
            refused("setBeta", OVERFLOW, x -> set(x, 0, row), x -> x.setBeta(n, 0));
        }
    }

    private static void steps() {
        about("Promise 21", "OVERFLOW: a step that overflows changes nothing");
        refused("step, the first", OVERFLOW, x -> {
            x.reset(4);
            set(x, 0, LIMIT);
            x.setBeta(0, 0);
        }, BaileyChain::step);
        Consumer<BaileyChain> oneStep = x -> {
            x.reset(4);
            set(x, 0, 33333333);
            x.setBeta(0, 0);
            x.step();
        };
        refused("step, the second", OVERFLOW, oneStep, BaileyChain::step);
        refused("step, after a refused one", OVERFLOW, oneStep.andThen(BaileyChain::step), BaileyChain::step);
        refused("step, the tenth", OVERFLOW, RefusalTests::nineSteps, BaileyChain::step);
        about("Promise 22", "NOTHING_TO_UNDO if no step is remembered");
        refused("undoStep after unitPair", -5, x -> x.unitPair(1), BaileyChain::undoStep);
        refused("undoStep after setAlpha", -5, x -> x.setAlpha(0, 1), BaileyChain::undoStep);
        refused("undoStep after setBeta", -5, x -> x.setBeta(0, 1), BaileyChain::undoStep);
        refused("undoStep after reset", -5, x -> x.reset(7), BaileyChain::undoStep);
        refused("undoStep, the second of one step", -5, x -> {
            x.unitPair(0);
            x.step();
            x.undoStep();
        }, BaileyChain::undoStep);
        refused("undoStep, the ninth", -5, x -> {
            x.unitPair(1);
            for (int i = 0; i < 12; i++) {
                x.step();
            }
            for (int i = 0; i < 8; i++) {
                x.undoStep();
            }
        }, BaileyChain::undoStep);
    }

    /** The largest coefficient of a series beta is 11247 times c after nine steps, 11804 times c after ten. */
    private static void nineSteps(BaileyChain x) {
        x.reset(24);
        x.setCoefficient(0, 0, LIMIT / 11804 + 1);
        x.setBeta(0, 0);
        for (int i = 0; i < 9; i++) {
            x.step();
        }
    }

    private static void copiesOfPairs() {
        for (int register : BAD_REGISTERS) {
            for (int n : new int[] {-1, 0, 5}) {
                about("Promise 24", "NO_SUCH_REGISTER (checked first)");
                refused("copyAlpha", NO_REGISTER, x -> x.copyAlpha(register, n));
                about("Promise 25", "NO_SUCH_REGISTER (checked first)");
                refused("copyBeta", NO_REGISTER, x -> x.copyBeta(register, n));
            }
        }
        for (int n : new int[] {LOWEST, -1, 5, HIGHEST}) {
            about("Promise 24", "BAD_ARGUMENT if n is out of range");
            refused("copyAlpha", BAD, x -> x.copyAlpha(5, n));
            about("Promise 25", "BAD_ARGUMENT if n is out of range");
            refused("copyBeta", BAD, x -> x.copyBeta(5, n));
        }
    }

    private static void sides() {
        // Both sides are 2 c q^3, while all series of the pair are in range.
        Consumer<BaileyChain> large = x -> {
            x.reset(4);
            set(x, 0, 0, 0, 0, 50000001);
            set(x, 1, 0, 0, 50000001, 50000001);
            x.setBeta(0, 0);
            x.setBeta(1, 1);
        };
        for (int register : BAD_REGISTERS) {
            about("Promise 26", "NO_SUCH_REGISTER (checked first)");
            refused("sumSide", NO_REGISTER, x -> x.sumSide(register));
            refused("sumSide, too large", NO_REGISTER, large, x -> x.sumSide(register));
            about("Promise 27", "NO_SUCH_REGISTER (checked first)");
            refused("productSide", NO_REGISTER, x -> x.productSide(register));
            refused("productSide, too large", NO_REGISTER, large, x -> x.productSide(register));
        }
        about("Promise 26", "OVERFLOW");
        refused("sumSide", OVERFLOW, large, x -> x.sumSide(1));
        about("Promise 27", "OVERFLOW");
        refused("productSide", OVERFLOW, large, x -> x.productSide(1));
    }

    private static void partitions() {
        about("Promise 28", "NO_VALUE if an argument is out of range");
        for (int n : new int[] {LOWEST, -1, 61, HIGHEST}) {
            refused("countPartitions, n", NO_VALUE, x -> x.countPartitions(n, 1, 1));
        }
        for (int modulus : new int[] {LOWEST, -1, 0, 13, 32, 33, HIGHEST}) {
            refused("countPartitions, modulus", NO_VALUE, x -> x.countPartitions(0, modulus, 0));
            refused("countPartitions, modulus", NO_VALUE, x -> x.countPartitions(5, modulus, 1));
        }
        for (int residues : BAD_RESIDUES) {
            refused("countPartitions, residues", NO_VALUE, x -> x.countPartitions(5, 3, residues));
        }
        about("Promise 29", "BAD_ARGUMENT if n is out of range");
        for (int n : new int[] {LOWEST, -1, 0, 17, HIGHEST}) {
            refused("listPartitions", BAD, x -> x.listPartitions(n));
        }
        about("Promise 31", "BAD_ARGUMENT if an index is negative");
        for (int negative : new int[] {LOWEST, -1}) {
            refused("part, index", BAD, x -> x.part(negative, 0));
            refused("part, index and no such part", BAD, x -> x.part(negative, HIGHEST));
            refused("part, part", BAD, x -> x.part(0, negative));
            refused("part, part and no such partition", BAD, x -> x.part(HIGHEST, negative));
            refused("part, both", BAD, x -> x.part(negative, negative));
        }
        about("Promise 31", "NONE if there is no such partition or no such part");
        refused("part, index", NONE, x -> x.part(231, 0));
        refused("part, part", NONE, x -> x.part(0, 16));
    }

    private static void append() {
        Consumer<BaileyChain> full = x -> {
            x.clearInput();
            type(x, "q".repeat(60));
        };
        about("Promise 32", "BAD_ARGUMENT if the count is out of range (checked first)");
        for (int count : new int[] {LOWEST, -1, 0, 5, HIGHEST}) {
            refused("append, count", BAD, x -> x.append(0x41414141, count));
            refused("append, count and full", BAD, full, x -> x.append(0x41414141, count));
        }
        about("Promise 32", "BAD_ARGUMENT if a byte is above 127 (checked first)");
        for (int count = 1; count <= 4; count++) {
            for (int place = 0; place < count; place++) {
                int counted = count;
                int bytes = 0x33333333 | 0x80 << 8 * place;
                refused("append, byte", BAD, x -> x.append(bytes, counted));
                refused("append, byte and full", BAD, full, x -> x.append(bytes, counted));
            }
        }
        about("Promise 32", "BUFFER_FULL if the buffer would hold more than 60 bytes");
        for (int count = 1; count <= 4; count++) {
            int counted = count;
            refused("append to 60", -6, full, x -> x.append(0x33333333, counted));
            refused("append to 61 less the count", -6, x -> {
                x.clearInput();
                type(x, "3+".repeat(30).substring(0, 61 - counted));
            }, x -> x.append(0x33333333, counted));
        }
    }

    private static void consumed() {
        about("Promise 34", "NO_SUCH_REGISTER (checked first; the input buffer keeps its content)");
        for (int register : new int[] {LOWEST, -1, 6, HIGHEST}) {
            refused("parseSeries of what is there", NO_REGISTER, x -> x.parseSeries(register));
        }
        for (String text : new String[] {"", "4-q", "4-", "odd"}) {
            Consumer<BaileyChain> typed = x -> {
                x.clearInput();
                type(x, text);
            };
            for (int register : BAD_REGISTERS) {
                refused("parseSeries of " + text, NO_REGISTER, typed, x -> x.parseSeries(register));
            }
        }
        about("Input buffer", "Its content is consumed by parseSeries, even if it returns an error");
        for (String text : new String[] {"", "4-", "odd", "12345", "q^", "1+q^2+q^345"}) {
            Consumer<BaileyChain> typed = x -> {
                x.clearInput();
                type(x, text);
            };
            Probe.changesLike("parseSeries of " + text, typed, x -> x.parseSeries(4), BaileyChain::clearInput);
        }
        about("Input buffer", "Its content is consumed by filterPartitions, even if it returns an error");
        for (String word : new String[] {"", "o", "ODD", "odd ", "evenodd", "selfconjugates", "1+q", "q".repeat(60)}) {
            Consumer<BaileyChain> typed = x -> {
                x.clearInput();
                type(x, word);
            };
            due("filterPartitions by " + word, filter(new BaileyChain(), word), BAD);
            Probe.changesLike("filterPartitions by " + word, typed, BaileyChain::filterPartitions,
                    BaileyChain::clearInput);
        }
    }

    private static void output() {
        about("Promise 35", "NO_SUCH_REGISTER");
        for (int register : new int[] {LOWEST, -1, 6, HIGHEST}) {
            refused("format", NO_REGISTER, x -> x.format(register));
        }
        about("Promise 36", "NONE if there is no such byte");
        for (int index : new int[] {LOWEST, -1, 400, HIGHEST}) {
            refused("outputByte", NONE, x -> x.outputByte(index));
        }
    }

    private static void allocate() {
        about("Promise 37", "BAD_ARGUMENT if the slot or the type is out of range or the size is above 40 (checked first)");
        for (int size : new int[] {LOWEST, -1, 0, 40, 41, HIGHEST}) {
            for (int slot : BAD_SLOTS) {
                refused("allocate, slot and " + size, BAD, x -> x.allocate(slot, 0, size));
                refused("allocate, slot, type and " + size, BAD, x -> x.allocate(slot, 4, size));
            }
            refused("allocate, type 4 and " + size, BAD, x -> x.allocate(0, 4, size));
            refused("allocate, type -1 and " + size, BAD, x -> x.allocate(3, -1, size));
        }
        for (int slot = 0; slot < 4; slot++) {
            int held = slot;
            refused("allocate of 41", BAD, x -> x.allocate(held, held, 41));
            refused("allocate of the highest", BAD, x -> x.allocate(held, 3 - held, HIGHEST));
            about("Promise 37", "NEGATIVE_SIZE");
            refused("allocate of -1", -14, x -> x.allocate(held, held, -1));
            refused("allocate of the lowest", -14, x -> x.allocate(held, 3 - held, LOWEST));
        }
        about("Promise 38", "BAD_ARGUMENT if the slot is out of range; 0 if it was empty");
        for (int slot : new int[] {LOWEST, -1, 4, HIGHEST}) {
            refused("release", BAD, x -> x.release(slot));
        }
        for (int slot = 0; slot < 4; slot++) {
            int empty = slot;
            refused("release of an empty slot", 0, x -> x.release(empty), x -> x.release(empty));
        }
    }

    private static void elements() {
        for (int slot : new int[] {LOWEST, -1, 4, HIGHEST}) {
            for (int index : new int[] {-1, 0, 40}) {
                about("Promise 39", "BAD_ARGUMENT if the slot is out of range (checked first)");
                refused("putElement, slot", BAD, x -> x.putElement(slot, index, 9));
                about("Promise 40", "NO_VALUE if the slot is out of range");
                refused("element, slot", NO_VALUE, x -> x.element(slot, index));
            }
        }
        Consumer<BaileyChain> empty = x -> x.release(2);
        for (int index : new int[] {LOWEST, -1, 0, 39, 40, HIGHEST}) {
            about("Promise 39", "EMPTY_SLOT (checked second)");
            refused("putElement, empty slot", EMPTY, empty, x -> x.putElement(2, index, 9));
            about("Promise 40", "NO_VALUE if the slot is empty");
            refused("element, empty slot", NO_VALUE, empty, x -> x.element(2, index));
        }
        for (int size : new int[] {0, 3, 40}) {
            for (int index : new int[] {LOWEST, -1, size, size + 1, HIGHEST}) {
                about("Promise 39", "INDEX_OUT_OF_RANGE");
                refused("putElement, index", OUTSIDE, x -> x.allocate(2, 1, size), x -> x.putElement(2, index, 9));
                about("Promise 40", "NO_VALUE if the index is out of range");
                refused("element, index", NO_VALUE, x -> x.allocate(2, 1, size), x -> x.element(2, index));
            }
        }
    }

    private static void copyElements() {
        // Slot 2 is empty, slot 3 has another type than slots 0 and 1, and slot 0 is the shorter one.
        Consumer<BaileyChain> arrays = x -> {
            x.allocate(0, 2, 3);
            x.allocate(1, 2, 5);
            x.release(2);
            x.allocate(3, 3, 5);
            for (int i = 0; i < 5; i++) {
                x.putElement(0, i, 10 + i);
                x.putElement(1, i, 20 + i);
                x.putElement(3, i, 30 + i);
            }
        };
        about("Promise 41", "BAD_ARGUMENT if a slot is out of range (checked first)");
        for (int slot : BAD_SLOTS) {
            for (int other : new int[] {0, 2, 3, slot}) {
                for (int count : new int[] {-1, 1, 41}) {
                    refused("copyElements from", BAD, arrays, x -> x.copyElements(slot, 0, other, 0, count));
                    refused("copyElements to", BAD, arrays, x -> x.copyElements(other, 0, slot, 0, count));
                }
            }
        }
        about("Promise 41", "EMPTY_SLOT if either slot is empty (checked second)");
        for (int other : new int[] {0, 1, 2, 3}) {
            for (int count : new int[] {-1, 0, 41}) {
                refused("copyElements from", EMPTY, arrays, x -> x.copyElements(2, 0, other, 0, count));
                refused("copyElements to", EMPTY, arrays, x -> x.copyElements(other, 0, 2, 0, count));
            }
        }
        about("Promise 41", "WRONG_TYPE if the element types differ (checked third)");
        for (int count : new int[] {LOWEST, -1, 0, 1, 6, HIGHEST}) {
            refused("copyElements from", -12, arrays, x -> x.copyElements(3, 0, 0, 0, count));
            refused("copyElements to", -12, arrays, x -> x.copyElements(1, 0, 3, 0, count));
            refused("copyElements, index -1", -12, arrays, x -> x.copyElements(1, -1, 3, -1, count));
        }
        about("Promise 41", "INDEX_OUT_OF_RANGE if an index or the count is negative");
        for (int negative : new int[] {LOWEST, -1}) {
            refused("copyElements, source", OUTSIDE, arrays, x -> x.copyElements(0, negative, 1, 0, 1));
            refused("copyElements, target", OUTSIDE, arrays, x -> x.copyElements(0, 0, 1, negative, 1));
            refused("copyElements, count", OUTSIDE, arrays, x -> x.copyElements(0, 0, 1, 0, negative));
            refused("copyElements, count from 1", OUTSIDE, arrays, x -> x.copyElements(0, 1, 1, 1, negative));
            refused("copyElements, none from", OUTSIDE, arrays, x -> x.copyElements(0, negative, 1, 0, 0));
            refused("copyElements, none to", OUTSIDE, arrays, x -> x.copyElements(0, 0, 1, negative, 0));
        }
        about("Promise 41", "INDEX_OUT_OF_RANGE if an end is beyond the size of either array");
        refused("copyElements beyond the source", OUTSIDE, arrays, x -> x.copyElements(0, 1, 1, 0, 3));
        refused("copyElements beyond the target", OUTSIDE, arrays, x -> x.copyElements(1, 0, 0, 1, 3));
        refused("copyElements within one", OUTSIDE, arrays, x -> x.copyElements(1, 0, 1, 3, 3));
        refused("copyElements, none beyond the source", OUTSIDE, arrays, x -> x.copyElements(0, 4, 1, 0, 0));
        refused("copyElements, none beyond the target", OUTSIDE, arrays, x -> x.copyElements(1, 0, 0, 4, 0));
        refused("copyElements, a wrap-around", OUTSIDE, arrays, x -> x.copyElements(0, 1, 1, 1, HIGHEST));
        refused("copyElements, a wrap-around", OUTSIDE, arrays, x -> x.copyElements(0, HIGHEST, 1, HIGHEST, 1));
        about("Promise 41", "Returns the count: none of the elements change where it is 0");
        refused("copyElements of none", 0, arrays, x -> x.copyElements(0, 3, 1, 5, 0));
    }

    private static void compareWithArray() {
        Consumer<BaileyChain> empty = x -> x.release(1);
        about("Promise 42", "BAD_ARGUMENT if the slot is out of range (checked first)");
        for (int slot : new int[] {LOWEST, -1, 4, HIGHEST}) {
            for (int register : new int[] {-1, 0, 6}) {
                refused("compareWithArray, slot", BAD, x -> x.compareWithArray(slot, register));
            }
        }
        about("Promise 42", "NO_SUCH_REGISTER (checked second)");
        for (int register : new int[] {LOWEST, -1, 6, HIGHEST}) {
            refused("compareWithArray, register", NO_REGISTER, x -> x.allocate(1, 0, 2),
                    x -> x.compareWithArray(1, register));
            refused("compareWithArray, register and empty slot", NO_REGISTER, empty,
                    x -> x.compareWithArray(1, register));
        }
        about("Promise 42", "EMPTY_SLOT");
        refused("compareWithArray, empty slot", EMPTY, empty, x -> x.compareWithArray(1, 5));
    }

    private static void restore() {
        about("Promise 44", "NOTHING_TO_UNDO if there is no snapshot");
        Probe.refusedWithoutSnapshot("restore", -5, BaileyChain::restore);
    }
}
