import java.util.function.IntToLongFunction;

/**
 * For each argument that the document gives a range: the last value that is allowed and the first that isn't, on
 * both sides; for each thing that can be empty or full, that it is so at the size told and not before.
 */
public final class RangeTests extends Check {
    public static void main(String[] args) {
        precisionOfReset();
        registersOfSeries();
        powersAndValues();
        targetsAndOperands();
        factorsAndPowers();
        products();
        questions();
        pairs();
        copiesOfPairs();
        sides();
        partitions();
        partsOfPartitions();
        input();
        texts();
        output();
        slots();
        elements();
        copiedElements();
        comparedArrays();
        end();
    }

    private static void precisionOfReset() {
        about("Promise 2", "the new precision N, 4 to 24; BAD_ARGUMENT if the precision is out of range");
        ends("reset", 4, 12, 24, 12, BAD, n -> new BaileyChain().reset(n));
        for (int n = 4; n <= 24; n++) {
            BaileyChain x = new BaileyChain();
            due("reset to " + n, x.reset(n), 12);
            due("reset after " + n, x.reset(12), n);
        }
        about("Promise 3", "Returns the precision N");
        due("precision after reset(4)", at(4).precision(), 4);
        due("precision after reset(24)", at(24).precision(), 24);
    }

    private static void registersOfSeries() {
        about("Promise 4", "NO_SUCH_REGISTER: a register number is not from 0 to 5");
        ends("setCoefficient", 0, 1, 5, 1, NO_REGISTER, r -> new BaileyChain().setCoefficient(r, 0, 1));
        about("Promise 5", "NO_VALUE if the register is out of range");
        ends("coefficient", 0, 1, 5, 6, NO_VALUE, r -> filled().coefficient(r, Math.floorMod(r, 6)));
        about("Promise 6", "the power, 0 to N - 1; NO_SUCH_REGISTER");
        ends("order", 0, 0, 5, 5, NO_REGISTER, r -> filled().order(r));
        about("Promise 7", "the power, 0 to N - 1; NO_SUCH_REGISTER");
        ends("degree", 0, 2, 5, 7, NO_REGISTER, r -> filled().degree(r));
        about("Promise 6", "NONE if the series is 0");
        for (int n = 4; n <= 24; n++) {
            BaileyChain x = at(n);
            due("order of 0", x.order(0), NONE);
            due("degree of 0", x.degree(0), NONE);
            x.setCoefficient(0, n - 1, -1);
            due("order at N - 1", x.order(0), n - 1);
            due("degree at N - 1", x.degree(0), n - 1);
            x.setCoefficient(0, 0, 1);
            due("order at 0", x.order(0), 0);
            x.setCoefficient(0, n - 1, 0);
            due("degree at 0", x.degree(0), 0);
            x.setCoefficient(0, 0, 0);
            due("order of 0 again", x.order(0), NONE);
            due("degree of 0 again", x.degree(0), NONE);
        }
    }

    private static void powersAndValues() {
        for (int precision = 4; precision <= 24; precision++) {
            int n = precision;
            about("Promise 4", "the power of q, 0 to N - 1; BAD_ARGUMENT if the power is out of range");
            ends("setCoefficient at N = " + n, 0, 1, n - 1, 1, BAD, k -> at(n).setCoefficient(0, k, 1));
            about("Promise 5", "the power of q, 0 to N - 1; NO_VALUE if the power is out of range");
            BaileyChain x = at(n);
            x.setCoefficient(2, 0, 5);
            x.setCoefficient(2, n - 1, -LIMIT);
            ends("coefficient at N = " + n, 0, 5, n - 1, -LIMIT, NO_VALUE, k -> x.coefficient(2, k));
        }
        about("Promise 4", "OVERFLOW if the value is outside the range of coefficients");
        ends("setCoefficient", -LIMIT, 1, LIMIT, 1, OVERFLOW, v -> new BaileyChain().setCoefficient(5, 11, v));
        about("Promise 4", "Returns 1 if the coefficient changed, 0 if it already had this value");
        for (int value : new int[] {-LIMIT, -1, 1, LIMIT}) {
            BaileyChain x = new BaileyChain();
            due("0 to 0", x.setCoefficient(0, 0, 0), 0);
            due("0 to " + value, x.setCoefficient(0, 0, value), 1);
            due(value + " again", x.setCoefficient(0, 0, value), 0);
            due("to the opposite", x.setCoefficient(0, 0, -value), 1);
            due("coefficient", x.coefficient(0, 0), -value);
            due("back to 0", x.setCoefficient(0, 0, 0), 1);
        }
    }

    private static void targetsAndOperands() {
        about("Promise 8", "NO_SUCH_REGISTER, of the target and of both summands");
        registers("add to", terms(4, 17), terms(4, 17), (x, t) -> kept(x, x.add(t, 0, 1, 1), t));
        registers("add, left", terms(4, 17), terms(4, 332), (x, r) -> kept(x, x.add(2, r, 1, 1), 2));
        registers("add, right", terms(2, 10), terms(4, 325), (x, r) -> kept(x, x.add(2, 0, r, 1), 2));
        about("Promise 9", "NO_SUCH_REGISTER, of the target and of both factors");
        registers("multiply to", terms(3, 60), terms(3, 60), (x, t) -> kept(x, x.multiply(t, 0, 1), t));
        registers("multiply, left", terms(3, 60), terms(3, 3840), (x, r) -> kept(x, x.multiply(2, r, 1), 2));
        registers("multiply, right", terms(3, 60), terms(3, 3840), (x, r) -> kept(x, x.multiply(2, 1, r), 2));
        about("Promise 10", "NO_SUCH_REGISTER, of the target, the dividend and the divisor");
        registers("divide to", terms(6, -1636), terms(6, -1636), (x, t) -> kept(x, x.divide(t, 1, 0), t));
        registers("divide, dividend", terms(1, 1), terms(4, -8128), (x, r) -> kept(x, x.divide(2, r, 0), 2));
        registers("divide, divisor", terms(6, -1636), terms(6, 143628), (x, r) -> {
            x.setCoefficient(r, 0, 1);
            return kept(x, x.divide(2, 1, r), 2);
        });
        about("Promise 11", "NO_SUCH_REGISTER, of the target and of the source");
        registers("shift to", terms(2, 10), terms(2, 10), (x, t) -> kept(x, x.shift(t, 0, 1), t));
        registers("shift, source", terms(2, 10), terms(2, 640), (x, r) -> kept(x, x.shift(2, r, 1), 2));
        about("Promise 12", "NO_SUCH_REGISTER, of the target and of the source");
        registers("substitute to", terms(2, 72), terms(2, 72), (x, t) -> kept(x, x.substitute(t, 1, 2), t));
        registers("substitute, source", terms(2, 17), terms(1, 6144), (x, r) -> kept(x, x.substitute(2, r, 2), 2));
        about("Promise 13", "NO_SUCH_REGISTER, of the target");
        registers("product to", terms(5, 155), terms(5, 155), (x, t) -> kept(x, x.product(t, 1, 1, 1), t));
    }

    private static void factorsAndPowers() {
        about("Promise 8", "the factor, -9 to 9; BAD_ARGUMENT if the factor is out of range");
        ends("add", -9, terms(4, 5 - 9 * 12), 9, terms(4, 5 + 9 * 12), BAD, f -> {
            BaileyChain x = filled();
            return kept(x, x.add(2, 0, 1, f), 2);
        });
        about("Promise 11", "the power of q, 0 to 23; BAD_ARGUMENT if the power is out of range");
        ends("shift at N = 24", 0, terms(2, 3), 23, terms(1, 1 << 23), BAD, k -> shifted(24, k));
        ends("shift at N = 4", 0, terms(2, 3), 23, terms(0, 0), BAD, k -> shifted(4, k));
        about("Promise 12", "the power of q by which q is replaced, 1 to 6; BAD_ARGUMENT if it is out of range");
        ends("substitute", 1, terms(2, 12), 6, terms(1, 128), BAD, p -> {
            BaileyChain x = filled();
            return kept(x, x.substitute(2, 1, p), 2);
        });
        about("Promise 10", "NOT_INVERTIBLE: the divisor has a constant term other than 1 and -1");
        for (int constant : new int[] {-LIMIT, -3, -2, -1, 0, 1, 2, 3, LIMIT}) {
            BaileyChain x = filled();
            x.setCoefficient(5, 0, constant);
            boolean invertible = constant == 1 || constant == -1;
            due("divide by the constant term " + constant, x.divide(1, 4, 5), invertible ? 4 : -4);
            due("divide 0 by the constant term " + constant, divideZero(constant), invertible ? 0 : -4);
        }
    }

    private static long shifted(int precision, int power) {
        BaileyChain x = at(precision);
        set(x, 1, 1, 1);
        return kept(x, x.shift(2, 1, power), 2);
    }

    private static int divideZero(int constant) {
        BaileyChain x = at(24);
        x.setCoefficient(0, 0, constant);
        return x.divide(2, 1, 0);
    }

    private static void products() {
        about("Promise 13", "the modulus, 1 to 12; BAD_ARGUMENT if it is out of range");
        ends("product", 1, terms(8, 4157595), 12, terms(2, -4095), BAD, m -> {
            BaileyChain x = at(24);
            return kept(x, x.product(0, m, 1, 1), 0);
        });
        about("Promise 13", "the set of remainders as bits, 0 to 2^modulus - 1");
        for (int modulus = 1; modulus <= 12; modulus++) {
            int m = modulus;
            ends("product modulo " + m, 0, terms(1, 1), (1 << m) - 1, terms(5, 155), BAD, set -> {
                BaileyChain x = new BaileyChain();
                return kept(x, x.product(0, m, set, 1), 0);
            });
        }
        about("Promise 13", "the remainder k is in the set if bit k is 1");
        for (int modulus = 1; modulus <= 12; modulus++) {
            for (int k = 0; k < modulus; k++) {
                BaileyChain x = at(24);
                x.product(0, modulus, 1 << k, 1);
                x.setCoefficient(1, 0, 1);
                int first = k == 0 ? modulus : k;
                due("the first factor of " + k + " modulo " + modulus, x.firstDifference(0, 1), first);
                due("its coefficient", x.coefficient(0, first), -1);
            }
        }
        about("Promise 13", "the exponent, -3 to 3; BAD_ARGUMENT if it is out of range");
        long cubed = 0;
        for (int k = 0; k < 12; k++) {
            cubed += (long) (k + 1) * (k + 2) / 2 << k;
        }
        ends("product", -3, terms(12, cubed), 3, terms(4, -1), BAD, e -> {
            BaileyChain x = new BaileyChain();
            return kept(x, x.product(0, 12, 2, e), 0);
        });
        about("Promise 13", "over all positive integers i below N");
        for (int n = 4; n <= 12; n++) {
            BaileyChain x = at(n);
            x.product(0, n - 1, 1, 1);
            due("i = N - 1 counts", x.coefficient(0, n - 1), -1);
            due("i = N does not", x.product(0, n, 1, -3), 1);
        }
    }

    private static void questions() {
        about("Promise 14", "NO_SUCH_REGISTER, of both registers; NONE if they are equal");
        registers("firstDifference, left", NONE, 0, (x, r) -> x.firstDifference(r, 0));
        registers("firstDifference, right", 0, NONE, (x, r) -> x.firstDifference(5, r));
        about("Promise 14", "the lowest power of q at which their coefficients differ");
        for (int n = 4; n <= 24; n++) {
            BaileyChain x = at(n);
            due("zeros", x.firstDifference(0, 1), NONE);
            x.setCoefficient(1, n - 1, 1);
            due("at N - 1", x.firstDifference(0, 1), n - 1);
            x.setCoefficient(0, 0, 1);
            due("at 0", x.firstDifference(0, 1), 0);
        }
        about("Promise 15", "NO_SUCH_REGISTER");
        registers("valueAt", 5, 320, (x, r) -> x.valueAt(r, 2));
        valuesAt();
        about("Promise 16", "the kind of statistic, 0 to 4; BAD_ARGUMENT if the kind is out of range");
        ends("statistic", 0, 2, 4, 2, BAD, k -> filled().statistic(5, k));
        about("Promise 16", "NO_SUCH_REGISTER");
        registers("statistic", 1, 6, (x, r) -> x.statistic(r, 3));
        about("Promise 17", "the rank, 0 to 5; BAD_ARGUMENT if the rank is out of range");
        ends("registerByRank", 0, 0, 5, 5, BAD, rank -> filled().registerByRank(rank));
        ends("registerByRank of zeros", 0, 0, 5, 5, BAD, rank -> new BaileyChain().registerByRank(rank));
    }

    private static void valuesAt() {
        about("Promise 15", "the remainder of the value modulo 1000003, 0 to 1000002, even for a negative value");
        int[] values = {0, 1, 1000002, 1000003, 1000004, -1, -1000002, -1000003, -1000004, LIMIT, -LIMIT};
        for (int value : values) {
            BaileyChain x = new BaileyChain();
            x.setCoefficient(0, 0, value);
            due("a constant of " + value, x.valueAt(0, 3), Math.floorMod(value, 1000003));
            BaileyChain line = new BaileyChain();
            line.setCoefficient(0, 1, 1);
            due("q at " + value, line.valueAt(0, value), Math.floorMod(value, 1000003));
        }
        BaileyChain x = at(24);
        for (int k = 0; k < 24; k++) {
            x.setCoefficient(0, k, k % 2 == 0 ? LIMIT : -LIMIT);
        }
        for (int point : new int[] {LOWEST, LOWEST + 1, -2, 0, 2, HIGHEST - 1, HIGHEST}) {
            java.math.BigInteger value = java.math.BigInteger.ZERO;
            for (int k = 23; k >= 0; k--) {
                value = value.multiply(java.math.BigInteger.valueOf(point));
                value = value.add(java.math.BigInteger.valueOf(x.coefficient(0, k)));
            }
            long want = value.mod(java.math.BigInteger.valueOf(1000003)).longValue();
            due("the largest series at " + point, x.valueAt(0, point), want);
        }
    }

    private static void pairs() {
        about("Promise 18", "r, 0 or 1; BAD_ARGUMENT if r is out of range");
        ends("unitPair", 0, 0, 1, 0, BAD, r -> new BaileyChain().unitPair(r));
        about("Promise 19", "NO_SUCH_REGISTER; the index, 0 to 4; BAD_ARGUMENT if n is out of range");
        registers("setAlpha", 1, 1, (x, r) -> x.setAlpha(2, r));
        ends("setAlpha", 0, 1, 4, 1, BAD, n -> filled().setAlpha(n, 3));
        about("Promise 20", "NO_SUCH_REGISTER; the index, 0 to 4; BAD_ARGUMENT if n is out of range");
        registers("setBeta", 1, 1, (x, r) -> x.setBeta(2, r));
        ends("setBeta", 0, 1, 4, 1, BAD, n -> filled().setBeta(n, 3));
        about("Promise 19", "Returns 1 if alpha(n) changed, 0 if not");
        about("Promise 20", "Returns 1 if beta(n) changed, 0 if not");
        for (int n = 0; n < 5; n++) {
            BaileyChain x = at(24);
            x.step();
            x.copyAlpha(0, n);
            x.copyBeta(1, n);
            due("setAlpha to what it is", x.setAlpha(n, 0), 0);
            due("setBeta to what it is", x.setBeta(n, 1), 0);
            x.setCoefficient(0, 23, 1000);
            due("setAlpha to another at the power N - 1", x.setAlpha(n, 0), 1);
            due("setAlpha to the same again", x.setAlpha(n, 0), 0);
            x.unitPair(1);
            x.copyBeta(1, n);
            x.setCoefficient(1, 23, 1000);
            due("setBeta to another at the power N - 1", x.setBeta(n, 1), 1);
            due("setBeta to the same again", x.setBeta(n, 1), 0);
        }
    }

    private static void copiesOfPairs() {
        about("Promise 24", "NO_SUCH_REGISTER; the index, 0 to 4; BAD_ARGUMENT if n is out of range");
        registers("copyAlpha", terms(2, -3), terms(2, -3), (x, t) -> kept(x, x.copyAlpha(t, 1), t));
        ends("copyAlpha", 0, terms(1, 1), 4, terms(2, 1088), BAD, n -> {
            BaileyChain x = filled();
            return kept(x, x.copyAlpha(0, n), 0);
        });
        about("Promise 25", "NO_SUCH_REGISTER; the index, 0 to 4; BAD_ARGUMENT if n is out of range");
        registers("copyBeta", terms(1, 1), terms(1, 1), (x, t) -> kept(x, x.copyBeta(t, 0), t));
        int[] intoFour = {1, 1, 2, 3, 5, 6, 9, 11, 15, 18, 23, 27};
        long value = 0;
        for (int k = 0; k < 12; k++) {
            value += (long) intoFour[k] << k;
        }
        ends("copyBeta", 0, terms(1, 1), 4, terms(12, value), BAD, n -> {
            BaileyChain x = filled();
            x.step();
            return kept(x, x.copyBeta(0, n), 0);
        });
    }

    private static void sides() {
        about("Promise 26", "NO_SUCH_REGISTER");
        registers("sumSide", terms(1, 1), terms(1, 1), (x, t) -> kept(x, x.sumSide(t), t));
        about("Promise 27", "NO_SUCH_REGISTER");
        registers("productSide", terms(1, 1), terms(1, 1), (x, t) -> kept(x, x.productSide(t), t));
        about("Promise 22", "NOTHING_TO_UNDO if no step is remembered");
        BaileyChain x = new BaileyChain();
        due("undoStep of a new object", x.undoStep(), -5);
        due("step", x.step(), 1);
        due("undoStep", x.undoStep(), 0);
        due("undoStep again", x.undoStep(), -5);
    }

    private static void partitions() {
        about("Promise 28", "the integer, 0 to 60; NO_VALUE if an argument is out of range");
        ends("countPartitions", 0, 1, 60, 966467, NO_VALUE, n -> new BaileyChain().countPartitions(n, 1, 1));
        about("Promise 28", "0 has one partition, the empty one");
        for (int modulus = 1; modulus <= 12; modulus++) {
            int m = modulus;
            due("of 0 without residues", new BaileyChain().countPartitions(0, m, 0), 1);
            due("of 1 without residues", new BaileyChain().countPartitions(1, m, 0), 0);
            about("Promise 28", "the set of remainders as bits, as for product");
            ends("countPartitions modulo " + m, 0, 0, (1 << m) - 1, 7, NO_VALUE,
                    set -> new BaileyChain().countPartitions(5, m, set));
            ends("countPartitions of 0 modulo " + m, 0, 1, (1 << m) - 1, 1, NO_VALUE,
                    set -> new BaileyChain().countPartitions(0, m, set));
        }
        about("Promise 28", "the modulus, 1 to 12");
        ends("countPartitions", 1, 77, 12, 1, NO_VALUE, m -> new BaileyChain().countPartitions(12, m, 1));
        ends("countPartitions", 1, 1, 12, 1, NO_VALUE, m -> new BaileyChain().countPartitions(0, m, 1));
        about("Promise 29", "the integer, 1 to 16; BAD_ARGUMENT if n is out of range");
        ends("listPartitions", 1, 1, 16, 231, BAD, n -> new BaileyChain().listPartitions(n));
    }

    private static void partsOfPartitions() {
        about("Promise 31", "BAD_ARGUMENT if an index is negative; NONE if there is no such partition");
        int[] counts = {1, 2, 3, 5, 7, 11, 15, 22, 30, 42, 56, 77, 101, 135, 176, 231};
        for (int n = 1; n <= 16; n++) {
            BaileyChain x = new BaileyChain();
            x.listPartitions(n);
            int last = counts[n - 1] - 1;
            due("the first of " + n, x.part(0, 0), n);
            due("the last of " + n, x.part(last, 0), 1);
            belowAndAbove("part", last + 1, index -> x.part(index, 0));
            about("Promise 31", "BAD_ARGUMENT if an index is negative; NONE if there is no such part");
            due("the only part of the first", x.part(0, 0), n);
            belowAndAbove("part", 1, part -> x.part(0, part));
            due("the last part of the last", x.part(last, n - 1), 1);
            belowAndAbove("part", n, part -> x.part(last, part));
        }
        about("Promise 31", "the partition list is empty: there is no such partition");
        BaileyChain x = new BaileyChain();
        belowAndAbove("part of a new object", 0, index -> x.part(index, 0));
        belowAndAbove("part of a new object", 0, part -> x.part(0, part));
        x.listPartitions(2);
        due("a filter that leaves none", filter(x, "even") + filter(x, "noones"), 1);
        belowAndAbove("part of an emptied list", 0, index -> x.part(index, 0));
    }

    /** Negative indices are BAD_ARGUMENT, those from the first free one on are NONE. */
    private static void belowAndAbove(String call, int firstFree, IntToLongFunction answer) {
        due(call + " -1", answer.applyAsLong(-1), BAD);
        due(call + " lowest", answer.applyAsLong(LOWEST), BAD);
        due(call + " " + firstFree, answer.applyAsLong(firstFree), NONE);
        due(call + " highest", answer.applyAsLong(HIGHEST), NONE);
    }

    private static void input() {
        about("Promise 32", "the number of bytes to append, 1 to 4; BAD_ARGUMENT if the count is out of range");
        ends("append", 1, 1, 4, 4, BAD, count -> new BaileyChain().append(0x41424344, count));
        about("Promise 32", "BAD_ARGUMENT if a byte is above 127");
        for (int count = 1; count <= 4; count++) {
            for (int place = 0; place < count; place++) {
                for (int value : new int[] {0, 1, 127, 128, 129, 255}) {
                    BaileyChain x = new BaileyChain();
                    due("byte " + value + " at " + place + " of " + count, x.append(value << 8 * place, count),
                            value <= 127 ? count : BAD);
                    due("clearInput", x.clearInput(), value <= 127 ? count : 0);
                }
            }
        }
        about("Promise 32", "BUFFER_FULL if the buffer would hold more than 60 bytes");
        for (int count = 1; count <= 4; count++) {
            BaileyChain x = new BaileyChain();
            type(x, "q".repeat(60 - count));
            due("append of the last " + count, x.append(0x71717171, count), 60);
            due("append to a full buffer", x.append(0x71717171, count), -6);
            due("clearInput", x.clearInput(), 60);
            type(x, "q".repeat(61 - count));
            due("append of one too many", x.append(0x71717171, count), -6);
            due("clearInput", x.clearInput(), 61 - count);
        }
        about("Promise 33", "Returns the number of bytes it held");
        for (int held = 0; held <= 60; held++) {
            BaileyChain x = new BaileyChain();
            type(x, "a".repeat(held));
            due("clearInput of " + held, x.clearInput(), held);
            due("clearInput again", x.clearInput(), 0);
        }
    }

    private static void texts() {
        about("Promise 34", "NO_SUCH_REGISTER");
        registers("parseSeries", terms(2, 7), terms(2, 7), (x, r) -> {
            type(x, "3+2q");
            return kept(x, x.parseSeries(r), r);
        });
        about("Promise 34", "number = 1 to 4 digits");
        String[] numbers = {"7", "77", "777", "7777"};
        for (String number : numbers) {
            due(number, parse(new BaileyChain(), 0, number), 1);
            due(number + "q", parse(new BaileyChain(), 0, number + "q"), 1);
        }
        due("no digit", parse(new BaileyChain(), 0, "-"), -1001);
        due("five digits", parse(new BaileyChain(), 0, "77777"), -1004);
        due("five digits and q", parse(new BaileyChain(), 0, "77777q"), -1004);
        about("Promise 34", "exponent = 1 or 2 digits");
        due("one digit", parse(new BaileyChain(), 0, "q^7"), 1);
        due("two digits", parse(new BaileyChain(), 0, "q^11"), 1);
        due("no digit", parse(new BaileyChain(), 0, "q^"), -1002);
        due("three digits", parse(new BaileyChain(), 0, "q^011"), -1004);
        about("Promise 34", "Terms at the power N or above are discarded");
        for (int n = 4; n <= 24; n++) {
            BaileyChain x = at(n);
            due("the power N - 1", kept(x, parse(x, 0, "q^" + (n - 1)), 0), terms(1, 1 << (n - 1)));
            due("the power N", kept(x, parse(x, 0, "q^" + n), 0), 0);
            due("the power 99", kept(x, parse(x, 0, "q^99"), 0), 0);
        }
        about("Promise 34", "The position, from 0 .. or the length of the text if it ends too early");
        for (int length = 0; length <= 60; length += 2) {
            String text = length == 0 ? "" : "q+".repeat(length / 2);
            due("ends too early at " + length, parse(new BaileyChain(), 0, text), -1000 - length);
        }
        for (int length = 0; length < 60; length++) {
            String text = ("q+".repeat(30)).substring(0, length) + "x";
            due("wrong at " + length, parse(new BaileyChain(), 0, text), -1000 - length);
        }
        BaileyChain x = new BaileyChain();
        due("a full buffer, wrong at its end", parse(x, 0, "q+".repeat(29) + "q "), -1059);
        due("a full buffer", kept(x, parse(x, 0, "q+".repeat(29) + "2q"), 0), terms(1, 62));
        bytesOfTexts();
    }

    private static void bytesOfTexts() {
        about("Promise 34", "the first byte that no well-formed text can have there");
        // Which bytes of 0 to 127 may follow these beginnings; all others are wrong there.
        String[] beginnings = {"", "-", "7", "77", "777", "7777", "q", "7q", "q^", "q^7", "q^77", "7+", "7-", "q^77-"};
        String digits = "0123456789";
        String[] follow = {
            digits + "q-", digits + "q", digits + "q+-", digits + "q+-", digits + "q+-", "q+-", "^+-", "^+-",
            digits, digits + "+-", "+-", digits + "q", digits + "q", digits + "q",
        };
        for (int i = 0; i < beginnings.length; i++) {
            for (int value = 0; value < 128; value++) {
                BaileyChain x = new BaileyChain();
                type(x, beginnings[i]);
                x.append(value, 1);
                // A byte that no text can have ends the text's well-formed part, so what follows it can't matter.
                x.append('!', 1);
                int fault = follow[i].indexOf(value) >= 0 ? 1 : 0;
                due("the byte " + value + " after " + beginnings[i], x.parseSeries(0),
                        -1000 - beginnings[i].length() - fault);
            }
        }
    }

    private static void output() {
        about("Promise 35", "NO_SUCH_REGISTER");
        registers("format", 5, 8, (x, r) -> x.format(r));
        about("Promise 36", "NONE if there is no such byte");
        BaileyChain x = new BaileyChain();
        ends("outputByte of 1 byte", 0, '0', 0, '0', NONE, i -> {
            x.format(0);
            return x.outputByte(i);
        });
        BaileyChain longest = at(24);
        for (int k = 0; k < 24; k++) {
            longest.setCoefficient(0, k, -LIMIT);
        }
        int length = 24 * 10 + 1 + 8 * 3 + 14 * 4;
        due("the longest text", longest.format(0), length);
        ends("outputByte of the longest text", 0, '-', length - 1, '3', NONE, i -> longest.outputByte(i));
        BaileyChain empty = new BaileyChain();
        about("Output buffer", "It is initially empty");
        for (int index : new int[] {LOWEST, -1, 0, 1, HIGHEST}) {
            due("outputByte of a new object", empty.outputByte(index), NONE);
        }
        about("Promise 35", "a power of 0, 1 and above; the absolute value unless it is 1 and the power is at least 1");
        int[] values = {-LIMIT, -10, -2, -1, 1, 2, 9, 10, 99, 100, LIMIT - 1, LIMIT};
        for (int value : values) {
            for (int power : new int[] {0, 1, 2, 9, 10, 23}) {
                BaileyChain one = at(24);
                one.setCoefficient(4, power, value);
                String want = text(value, power, true);
                due("format", one.format(4), want.length());
                due("the text", output(one), want);
                one.setCoefficient(4, 0, 7);
                one.setCoefficient(4, power == 0 ? 1 : power, value);
                due("the text of two terms", show(one, 4), "7" + text(value, power == 0 ? 1 : power, false));
            }
        }
    }

    private static String text(int value, int power, boolean first) {
        String sign = value < 0 ? "-" : first ? "" : "+";
        String number = Math.abs(value) == 1 && power >= 1 ? "" : String.valueOf(Math.abs(value));
        return sign + number + (power == 0 ? "" : power == 1 ? "q" : "q^" + power);
    }

    private static void slots() {
        about("Promise 37", "the slot, 0 to 3; BAD_ARGUMENT if the slot is out of range");
        ends("allocate", 0, 5, 3, 5, BAD, s -> new BaileyChain().allocate(s, 0, 5));
        about("Promise 37", "the element type, 0 to 3; BAD_ARGUMENT if the type is out of range");
        ends("allocate", 0, 5, 3, 5, BAD, t -> new BaileyChain().allocate(0, t, 5));
        about("Promise 37", "BAD_ARGUMENT if the size is above 40; NEGATIVE_SIZE");
        for (int type = 0; type < 4; type++) {
            int[] sizes = {LOWEST, -41, -1, 0, 1, 39, 40, 41, 255, HIGHEST};
            int[] answers = {-14, -14, -14, 0, 1, 39, 40, BAD, BAD, BAD};
            for (int i = 0; i < sizes.length; i++) {
                due("allocate of " + sizes[i], new BaileyChain().allocate(1, type, sizes[i]), answers[i]);
            }
        }
        about("Promise 37", "Stores a new array, filled with 0");
        BaileyChain x = new BaileyChain();
        x.allocate(2, 3, 40);
        for (int i = 0; i < 40; i++) {
            x.putElement(2, i, -1);
        }
        x.allocate(2, 3, 40);
        due("a new array over a full one", elements(x, 2), "0 ".repeat(39) + "0");
        about("Promise 38", "the slot, 0 to 3; BAD_ARGUMENT if the slot is out of range; 0 if it was empty");
        ends("release of an empty slot", 0, 0, 3, 0, BAD, s -> new BaileyChain().release(s));
        ends("release of a held one", 0, 1, 3, 1, BAD, s -> allHeld().release(s));
        about("Promise 38", "Empties an array slot");
        for (int slot = 0; slot < 4; slot++) {
            BaileyChain y = allHeld();
            y.release(slot);
            due("release again", y.release(slot), 0);
            due("element", y.element(slot, 0), NO_VALUE);
            due("putElement", y.putElement(slot, 0, 1), -11);
            y.allocate(slot, 3, 2);
            due("a new array over a released one", elements(y, slot), "0 0");
        }
    }

    /** Slot s holds an array of type s with s + 1 elements, the last of them 7. */
    private static BaileyChain allHeld() {
        BaileyChain x = new BaileyChain();
        for (int slot = 0; slot < 4; slot++) {
            x.allocate(slot, slot, slot + 1);
            x.putElement(slot, slot, 7);
        }
        return x;
    }

    private static void elements() {
        about("Promise 39", "BAD_ARGUMENT if the slot is out of range; EMPTY_SLOT");
        ends("putElement", 0, 1, 3, 1, BAD, s -> allHeld().putElement(s, 0, 1));
        ends("putElement of an empty slot", 0, -11, 3, -11, BAD, s -> new BaileyChain().putElement(s, 0, 1));
        about("Promise 40", "NO_VALUE if the slot is out of range or empty");
        ends("element", 0, 7, 3, 7, NO_VALUE, s -> allHeld().element(s, Math.floorMod(s, 4)));
        due("element of an empty slot", new BaileyChain().element(0, 0), NO_VALUE);
        for (int size = 1; size <= 40; size++) {
            BaileyChain x = new BaileyChain();
            x.allocate(3, 3, size);
            about("Promise 39", "INDEX_OUT_OF_RANGE");
            ends("putElement of " + size, 0, 1, size - 1, 1, -13, i -> x.putElement(3, i, i + 5));
            about("Promise 40", "NO_VALUE if the index is out of range");
            ends("element of " + size, 0, 5, size - 1, size + 4, NO_VALUE, i -> x.element(3, i));
        }
        about("Promise 39", "INDEX_OUT_OF_RANGE of an array without elements");
        for (int index : new int[] {LOWEST, -1, 0, 1, HIGHEST}) {
            BaileyChain x = new BaileyChain();
            x.allocate(1, 2, 0);
            due("putElement", x.putElement(1, index, 1), -13);
            due("element", x.element(1, index), NO_VALUE);
        }
        narrowed();
    }

    private static void narrowed() {
        about("Promise 39", "The value is narrowed to the element type as by a Java cast");
        long[] values = {
            0, -1, 127, 128, -128, -129, 255, 256, 32767, 32768, -32768, -32769, 65535, 65536, HIGHEST, HIGHEST + 1L,
            LOWEST, LOWEST - 1L, 0xffffffffL, 1L << 32, Long.MAX_VALUE, Long.MIN_VALUE + 1, 0x80L << 32,
        };
        for (long value : values) {
            BaileyChain x = allHeld();
            for (int type = 0; type < 4; type++) {
                due("putElement", x.putElement(type, 0, value), 1);
            }
            due(value + " as a byte", x.element(0, 0), (byte) value);
            due(value + " as a short", x.element(1, 0), (short) value);
            due(value + " as an int", x.element(2, 0), (int) value);
            due(value + " as a long", x.element(3, 0), value);
        }
        BaileyChain x = allHeld();
        due("the lowest long", x.putElement(3, 1, Long.MIN_VALUE), 1);
        due("the lowest long is NO_VALUE's own", x.element(3, 1), Long.MIN_VALUE);
    }

    private static void copiedElements() {
        about("Promise 41", "BAD_ARGUMENT if a slot is out of range");
        ends("copyElements from", 0, 1, 3, 1, BAD, s -> alike().copyElements(s, 0, 1, 0, 1));
        ends("copyElements to", 0, 1, 3, 1, BAD, s -> alike().copyElements(1, 0, s, 0, 1));
        about("Promise 41", "EMPTY_SLOT if either slot is empty");
        for (int slot = 0; slot < 4; slot++) {
            BaileyChain x = alike();
            x.release(slot);
            int other = (slot + 1) % 4;
            due("empty source", x.copyElements(slot, 0, other, 0, 0), -11);
            due("empty target", x.copyElements(other, 0, slot, 0, 0), -11);
            due("both empty", x.copyElements(slot, 0, slot, 0, 0), -11);
        }
        about("Promise 41", "WRONG_TYPE if the element types differ");
        for (int source = 0; source < 4; source++) {
            for (int target = 0; target < 4; target++) {
                due("from type " + source + " to " + target, allHeld().copyElements(source, 0, target, 0, 1),
                        source == target ? 1 : -12);
            }
        }
        about("Promise 41", "INDEX_OUT_OF_RANGE if an index or the count is negative");
        ends("source index of 2, count 0", 0, 0, 2, 0, -13, i -> alike().copyElements(0, i, 1, 0, 0));
        ends("target index of 3, count 0", 0, 0, 3, 0, -13, i -> alike().copyElements(0, 0, 1, i, 0));
        ends("count from 2 to 3", 0, 0, 2, 2, -13, c -> alike().copyElements(0, 0, 1, 0, c));
        about("Promise 41", "INDEX_OUT_OF_RANGE if an end is beyond the size of either array");
        ends("source index of 2, count 1", 0, 1, 1, 1, -13, i -> alike().copyElements(0, i, 1, 0, 1));
        ends("target index of 3, count 2", 0, 2, 1, 2, -13, i -> alike().copyElements(0, 0, 1, i, 2));
        ends("count from 4 to 3", 0, 0, 3, 3, -13, c -> alike().copyElements(2, 0, 1, 0, c));
        ends("count from 3 at 2 to 4", 0, 0, 1, 1, -13, c -> alike().copyElements(1, 2, 2, 0, c));
        ends("count from 40 to 40", 0, 0, 40, 40, -13, c -> alike().copyElements(3, 0, 3, 0, c));
        ends("count from 40 at 39 to 40", 0, 0, 1, 1, -13, c -> alike().copyElements(3, 39, 3, 0, c));
        ends("count from 40 to 40 at 39", 0, 0, 1, 1, -13, c -> alike().copyElements(3, 0, 3, 39, c));
        ends("count from 40 at 40", 0, 0, 0, 0, -13, c -> alike().copyElements(3, 40, 3, 40, c));
        about("Promise 41", "an end beyond the size, where index and count wrap around");
        for (int index : new int[] {1, 2, HIGHEST}) {
            due("source", alike().copyElements(0, index, 1, 0, HIGHEST), -13);
            due("target", alike().copyElements(3, 0, 1, HIGHEST, index), -13);
            due("negative", alike().copyElements(0, LOWEST, 1, LOWEST, LOWEST), -13);
            due("negative target", alike().copyElements(3, 0, 1, LOWEST, index), -13);
        }
        overlapping();
    }

    /** Arrays of bytes with 2, 3, 4 and 40 elements. */
    private static BaileyChain alike() {
        BaileyChain x = new BaileyChain();
        int[] sizes = {2, 3, 4, 40};
        for (int slot = 0; slot < 4; slot++) {
            x.allocate(slot, 0, sizes[slot]);
        }
        return x;
    }

    private static void overlapping() {
        about("Promise 41", "or within one array, as System.arraycopy does");
        for (int from = 0; from <= 4; from++) {
            for (int to = 0; to <= 4; to++) {
                for (int count = 0; count <= 4 - Math.max(from, to); count++) {
                    BaileyChain x = alike();
                    int[] want = {1, 2, 3, 4};
                    for (int i = 0; i < 4; i++) {
                        x.putElement(2, i, want[i]);
                    }
                    System.arraycopy(want, from, want, to, count);
                    due("copyElements", x.copyElements(2, from, 2, to, count), count);
                    due("the array", elements(x, 2), want[0] + " " + want[1] + " " + want[2] + " " + want[3]);
                }
            }
        }
    }

    private static void comparedArrays() {
        about("Promise 42", "BAD_ARGUMENT if the slot is out of range; EMPTY_SLOT");
        ends("compareWithArray", 0, 1, 3, 4, BAD, s -> {
            BaileyChain x = allHeld();
            x.setCoefficient(0, Math.floorMod(s, 4), 7);
            return x.compareWithArray(s, 0);
        });
        ends("compareWithArray of an empty slot", 0, -11, 3, -11, BAD, s -> filled().compareWithArray(s, 0));
        about("Promise 42", "NO_SUCH_REGISTER");
        registers("compareWithArray", 0, 5, (x, r) -> {
            x.allocate(1, 2, 12);
            return x.compareWithArray(1, r);
        });
        about("Promise 42", "the smaller of the size and N if these are unequal, and NONE if they are equal");
        for (int n = 4; n <= 24; n++) {
            for (int size = 0; size <= 40; size++) {
                BaileyChain x = at(n);
                x.allocate(0, 3, size);
                due("zeros, " + size + " and " + n, x.compareWithArray(0, 0), size == n ? NONE : Math.min(size, n));
                int last = Math.min(size, n) - 1;
                if (last >= 0) {
                    x.setCoefficient(1, last, 1);
                    due("a difference at the last power", x.compareWithArray(0, 1), last);
                    x.setCoefficient(2, 0, 1);
                    due("a difference at 0", x.compareWithArray(0, 2), 0);
                }
                x.putElement(0, n, 9);
                due("what is beyond N", x.compareWithArray(0, 0), size == n ? NONE : Math.min(size, n));
            }
        }
    }
}
