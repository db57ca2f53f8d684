/** Each promise of the document by itself: ordinary inputs, the edges, and wrong inputs with their order. */
public final class PromiseTests {
    private static final int LOWEST = Integer.MIN_VALUE;
    private static final int HIGHEST = Integer.MAX_VALUE;
    private static final int LIMIT = 100000000;
    private static int wrong = 0;
    private static int promise = 0;

    private static void due(String what, long got, long want) {
        if (got != want) {
            wrong++;
            System.out.println("promise " + promise + ": " + what + " answered " + got + ", due is " + want);
        }
    }

    private static void due(String what, String got, String want) {
        if (!got.equals(want)) {
            wrong++;
            System.out.println("promise " + promise + ": " + what + " is " + got + ", due is " + want);
        }
    }

    public static void main(String[] args) {
        newObject();
        reset();
        precision();
        setCoefficient();
        coefficient();
        order();
        degree();
        add();
        multiply();
        divide();
        shift();
        substitute();
        product();
        firstDifference();
        valueAt();
        statistic();
        registerByRank();
        unitPair();
        setAlpha();
        setBeta();
        step();
        undoStep();
        chainLength();
        copyAlpha();
        copyBeta();
        sumSide();
        productSide();
        countPartitions();
        listPartitions();
        filterPartitions();
        part();
        append();
        clearInput();
        parseSeries();
        format();
        outputByte();
        allocate();
        release();
        putElement();
        element();
        copyElements();
        compareWithArray();
        snapshot();
        restore();
        System.out.println(wrong == 0 ? "all promises hold" : wrong + " answers are not as due");
        if (wrong != 0) {
            System.exit(1);
        }
    }

    private static void type(BaileyChain x, String text) {
        for (int i = 0; i < text.length(); i++) {
            due("append of " + text.charAt(i), x.append(text.charAt(i), 1) > 0 ? 1 : 0, 1);
        }
    }

    /** Sets a register to a series of small coefficients, by way of the input buffer. */
    private static void put(BaileyChain x, int register, String text) {
        x.clearInput();
        type(x, text);
        due("parseSeries of " + text, x.parseSeries(register) >= 0 ? 1 : 0, 1);
    }

    private static String show(BaileyChain x, int register) {
        StringBuilder text = new StringBuilder();
        int length = x.format(register);
        for (int i = 0; i < length; i++) {
            text.append((char) x.outputByte(i));
        }
        return text.toString();
    }

    private static String alpha(BaileyChain x, int n) {
        x.copyAlpha(5, n);
        return show(x, 5);
    }

    private static String beta(BaileyChain x, int n) {
        x.copyBeta(5, n);
        return show(x, 5);
    }

    /** Tells series apart by few calls, as an object is promised for 512 of them. */
    private static String mark(BaileyChain x, int register) {
        return x.statistic(register, 0) + " terms, " + x.valueAt(register, 1000) + " " + x.valueAt(register, -7);
    }

    private static String alphaMark(BaileyChain x, int n) {
        x.copyAlpha(5, n);
        return mark(x, 5);
    }

    private static String betaMark(BaileyChain x, int n) {
        x.copyBeta(5, n);
        return mark(x, 5);
    }

    private static String partition(BaileyChain x, int index) {
        StringBuilder text = new StringBuilder();
        for (int i = 0; x.part(index, i) > 0; i++) {
            text.append(i == 0 ? "" : " ").append(x.part(index, i));
        }
        return text.toString();
    }

    private static int filter(BaileyChain x, String word) {
        type(x, word);
        return x.filterPartitions();
    }

    private static int parse(BaileyChain x, int register, String text) {
        type(x, text);
        return x.parseSeries(register);
    }

    private static void newObject() {
        promise = 1;
        BaileyChain x = new BaileyChain();
        due("precision", x.precision(), 12);
        for (int register = 0; register < 6; register++) {
            due("order of register " + register, x.order(register), -7);
        }
        due("chainLength", x.chainLength(), 0);
        due("undoStep", x.undoStep(), -5);
        due("restore", x.restore(), -5);
        due("part", x.part(0, 0), -7);
        due("clearInput", x.clearInput(), 0);
        due("outputByte", x.outputByte(0), -7);
        for (int slot = 0; slot < 4; slot++) {
            due("release", x.release(slot), 0);
        }
        due("beta(0)", beta(x, 0), "1");
        due("alpha(0)", alpha(x, 0), "1");
        due("alpha(1)", alpha(x, 1), "-1-q");
        due("alpha(2)", alpha(x, 2), "q+q^3");
        for (int n = 1; n < 5; n++) {
            due("beta", beta(x, n), "0");
        }
        BaileyChain other = new BaileyChain();
        x.setCoefficient(0, 0, 1);
        due("another object's register", other.order(0), -7);
    }

    private static void reset() {
        promise = 2;
        BaileyChain x = new BaileyChain();
        due("reset(3)", x.reset(3), -1);
        due("reset(25)", x.reset(25), -1);
        due("reset(lowest)", x.reset(LOWEST), -1);
        due("precision", x.precision(), 12);
        due("reset(4)", x.reset(4), 12);
        due("reset(24)", x.reset(24), 4);
        due("precision", x.precision(), 24);
        put(x, 3, "5q^23");
        x.unitPair(1);
        x.step();
        x.listPartitions(4);
        x.format(3);
        type(x, "ab");
        x.allocate(2, 3, 1);
        x.snapshot();
        due("reset(24)", x.reset(24), 24);
        due("register 3", x.order(3), -7);
        due("chainLength", x.chainLength(), 0);
        due("undoStep", x.undoStep(), -5);
        due("part(0, 0)", x.part(0, 0), 4);
        due("outputByte(0)", x.outputByte(0), '5');
        due("clearInput", x.clearInput(), 2);
        due("element(2, 0)", x.element(2, 0), 0);
        due("alpha(1)", alpha(x, 1), "-1-q");
        due("reset(3)", x.reset(3), -1);
        due("restore", x.restore(), 24);
        due("chainLength", x.chainLength(), 1);
        due("register 3", show(x, 3), "5q^23");
    }

    private static void precision() {
        promise = 3;
        BaileyChain x = new BaileyChain();
        due("precision", x.precision(), 12);
        for (int n = 4; n <= 24; n++) {
            x.reset(n);
            due("precision", x.precision(), n);
            due("the last power", x.setCoefficient(0, n - 1, 1), 1);
            due("the power N", x.setCoefficient(0, n, 1), -1);
        }
    }

    private static void setCoefficient() {
        promise = 4;
        BaileyChain x = new BaileyChain();
        due("register -1", x.setCoefficient(-1, -1, LIMIT + 1), -2);
        due("register 6", x.setCoefficient(6, 12, HIGHEST), -2);
        due("power -1", x.setCoefficient(0, -1, LIMIT + 1), -1);
        due("power 12", x.setCoefficient(0, 12, LOWEST), -1);
        due("too large", x.setCoefficient(0, 0, LIMIT + 1), -3);
        due("too small", x.setCoefficient(0, 0, -LIMIT - 1), -3);
        due("the lowest integer", x.setCoefficient(0, 0, LOWEST), -3);
        due("unchanged", x.coefficient(0, 0), 0);
        due("zero again", x.setCoefficient(0, 0, 0), 0);
        due("the largest", x.setCoefficient(0, 0, LIMIT), 1);
        due("the largest again", x.setCoefficient(0, 0, LIMIT), 0);
        due("the smallest", x.setCoefficient(5, 11, -LIMIT), 1);
        due("coefficient", x.coefficient(5, 11), -LIMIT);
        due("coefficient", x.coefficient(0, 0), LIMIT);
    }

    private static void coefficient() {
        promise = 5;
        BaileyChain x = new BaileyChain();
        x.setCoefficient(2, 3, -77);
        due("coefficient(2, 3)", x.coefficient(2, 3), -77);
        due("coefficient(2, 4)", x.coefficient(2, 4), 0);
        due("coefficient(3, 3)", x.coefficient(3, 3), 0);
        due("register -1", x.coefficient(-1, 0), Long.MIN_VALUE);
        due("register 6", x.coefficient(6, 0), Long.MIN_VALUE);
        due("power -1", x.coefficient(0, -1), Long.MIN_VALUE);
        due("power 12", x.coefficient(0, 12), Long.MIN_VALUE);
        due("power 11", x.coefficient(0, 11), 0);
        due("the ends", x.coefficient(LOWEST, HIGHEST), Long.MIN_VALUE);
    }

    private static void order() {
        promise = 6;
        BaileyChain x = new BaileyChain();
        due("order of 0", x.order(0), -7);
        put(x, 0, "q^3-2q^7");
        due("order", x.order(0), 3);
        put(x, 0, "-1q^11");
        due("order at N - 1", x.order(0), 11);
        put(x, 0, "4+q");
        due("order at 0", x.order(0), 0);
        due("register -1", x.order(-1), -2);
        due("register 6", x.order(6), -2);
    }

    private static void degree() {
        promise = 7;
        BaileyChain x = new BaileyChain();
        due("degree of 0", x.degree(0), -7);
        put(x, 0, "q^3-2q^7");
        due("degree", x.degree(0), 7);
        put(x, 0, "1-q^11");
        due("degree at N - 1", x.degree(0), 11);
        put(x, 0, "4");
        due("degree at 0", x.degree(0), 0);
        x.reset(24);
        due("degree of 0 at precision 24", x.degree(0), -7);
        put(x, 0, "q^23");
        due("degree at 23", x.degree(0), 23);
        due("register -1", x.degree(-1), -2);
        due("register 6", x.degree(6), -2);
    }

    private static void add() {
        promise = 8;
        BaileyChain x = new BaileyChain();
        put(x, 0, "1-q+3q^5");
        put(x, 1, "2+q+q^2");
        due("add(2, 0, 1, 1)", x.add(2, 0, 1, 1), 3);
        due("the sum", show(x, 2), "3+q^2+3q^5");
        due("add(2, 0, 1, -9)", x.add(2, 0, 1, -9), 4);
        due("the sum", show(x, 2), "-17-10q-9q^2+3q^5");
        due("add(2, 0, 1, 0)", x.add(2, 0, 1, 0), 3);
        due("the sum", show(x, 2), "1-q+3q^5");
        due("add(0, 0, 0, -1)", x.add(0, 0, 0, -1), 0);
        due("the sum", show(x, 0), "0");
        due("target -1", x.add(-1, 0, 0, 10), -2);
        due("left 6", x.add(0, 6, 0, 10), -2);
        due("right 6", x.add(0, 0, 6, 10), -2);
        due("factor 10", x.add(0, 0, 0, 10), -1);
        due("factor -10", x.add(0, 0, 0, -10), -1);
        due("factor 9", x.add(0, 0, 0, 9), 0);
        x.setCoefficient(3, 11, LIMIT);
        x.setCoefficient(4, 11, -LIMIT);
        due("too large", x.add(2, 3, 3, 1), -3);
        due("too small", x.add(2, 4, 4, 9), -3);
        due("too large by a negative factor", x.add(2, 3, 4, -1), -3);
        due("unchanged", show(x, 2), "1-q+3q^5");
        due("only the result counts", x.add(2, 3, 4, 2), 1);
        due("the smallest", x.coefficient(2, 11), -LIMIT);
    }

    private static void multiply() {
        promise = 9;
        BaileyChain x = new BaileyChain();
        put(x, 0, "1-q");
        put(x, 1, "1+q+q^2+q^3+q^4+q^5+q^6+q^7+q^8+q^9+q^10+q^11");
        due("multiply(2, 0, 1)", x.multiply(2, 0, 1), 1);
        due("the product", show(x, 2), "1");
        due("multiply(1, 1, 1)", x.multiply(1, 1, 1), 12);
        due("coefficient", x.coefficient(1, 11), 12);
        put(x, 3, "q^6");
        due("beyond N", x.multiply(3, 3, 3), 0);
        due("target 6", x.multiply(6, 0, 0), -2);
        due("left -1", x.multiply(0, -1, 0), -2);
        due("right 6", x.multiply(0, 0, 6), -2);
        x.setCoefficient(3, 0, 10000);
        x.setCoefficient(4, 0, -10000);
        due("the smallest", x.multiply(5, 3, 4), 1);
        due("coefficient", x.coefficient(5, 0), -LIMIT);
        x.setCoefficient(4, 11, 10001);
        due("too large", x.multiply(5, 3, 4), -3);
        due("unchanged", x.degree(5), 0);
        x.setCoefficient(3, 0, 0);
        x.setCoefficient(3, 1, LIMIT);
        x.setCoefficient(4, 0, 0);
        x.setCoefficient(4, 11, LIMIT);
        due("too large beyond N only", x.multiply(5, 3, 4), 0);
        x.reset(24);
        for (int k = 0; k < 24; k++) {
            x.setCoefficient(0, k, LIMIT);
            x.setCoefficient(1, k, k % 2 == 0 ? LIMIT : -LIMIT);
        }
        due("far too large", x.multiply(2, 0, 0), -3);
        due("large at even powers", x.multiply(2, 0, 1), -3);
        due("unchanged", x.order(2), -7);
        x.reset(4);
        for (int k = 0; k < 3; k++) {
            x.setCoefficient(0, k + 1, LIMIT);
            x.setCoefficient(1, k, k == 1 ? -1 : k == 0 ? 1 : 0);
        }
        due("large sums that cancel", x.multiply(2, 0, 1), 1);
        due("the product", show(x, 2), "100000000q");
    }

    private static void divide() {
        promise = 10;
        BaileyChain x = new BaileyChain();
        put(x, 0, "1");
        put(x, 1, "1-q-q^2");
        due("divide(2, 0, 1)", x.divide(2, 0, 1), 12);
        due("Fibonacci", x.coefficient(2, 11), 144);
        put(x, 1, "-1+q+q^2");
        due("by the constant term -1", x.divide(1, 0, 1), 12);
        due("coefficient", x.coefficient(1, 11), -144);
        put(x, 1, "1+q");
        due("itself by itself", x.divide(1, 1, 1), 1);
        due("the quotient", show(x, 1), "1");
        put(x, 1, "2+q");
        due("constant term 2", x.divide(3, 0, 1), -4);
        put(x, 1, "q");
        due("constant term 0", x.divide(3, 1, 1), -4);
        due("target 6", x.divide(6, 0, 1), -2);
        due("dividend -1", x.divide(0, -1, 1), -2);
        due("divisor 6", x.divide(0, 0, 6), -2);
        put(x, 1, "1-5q");
        due("5 to the powers up to 11", x.divide(3, 0, 1), 12);
        due("coefficient", x.coefficient(3, 11), 48828125);
        put(x, 1, "1-6q");
        put(x, 3, "7");
        due("6 to the power 11 is too large", x.divide(3, 0, 1), -3);
        due("unchanged", show(x, 3), "7");
        x.reset(24);
        put(x, 0, "1");
        put(x, 1, "1");
        x.setCoefficient(1, 1, LIMIT);
        due("far too large", x.divide(2, 0, 1), -3);
        x.setCoefficient(1, 1, 0);
        x.setCoefficient(1, 23, LIMIT);
        due("the smallest", x.divide(2, 0, 1), 2);
        due("coefficient", x.coefficient(2, 23), -LIMIT);
        put(x, 0, "0");
        due("0 by a series", x.divide(2, 0, 1), 0);
    }

    private static void shift() {
        promise = 11;
        BaileyChain x = new BaileyChain();
        put(x, 0, "1-q+3q^9");
        due("shift(1, 0, 2)", x.shift(1, 0, 2), 3);
        due("the result", show(x, 1), "q^2-q^3+3q^11");
        due("shift(1, 0, 3)", x.shift(1, 0, 3), 2);
        due("the result", show(x, 1), "q^3-q^4");
        due("shift(1, 0, 0)", x.shift(1, 0, 0), 3);
        due("shift(1, 0, 11)", x.shift(1, 0, 11), 1);
        due("shift(1, 0, 12)", x.shift(1, 0, 12), 0);
        due("shift(1, 0, 23)", x.shift(1, 0, 23), 0);
        due("shift(1, 0, 24)", x.shift(1, 0, 24), -1);
        due("shift(1, 0, -1)", x.shift(1, 0, -1), -1);
        due("target 6", x.shift(6, 0, -1), -2);
        due("source -1", x.shift(0, -1, 24), -2);
        due("within one register", x.shift(0, 0, 1), 3);
        due("the result", show(x, 0), "q-q^2+3q^10");
    }

    private static void substitute() {
        promise = 12;
        BaileyChain x = new BaileyChain();
        put(x, 0, "2-q+3q^5+q^6");
        due("substitute(1, 0, 2)", x.substitute(1, 0, 2), 3);
        due("the result", show(x, 1), "2-q^2+3q^10");
        due("substitute(1, 0, 1)", x.substitute(1, 0, 1), 4);
        due("substitute(1, 0, 6)", x.substitute(1, 0, 6), 2);
        due("the result", show(x, 1), "2-q^6");
        due("substitute(1, 0, 0)", x.substitute(1, 0, 0), -1);
        due("substitute(1, 0, 7)", x.substitute(1, 0, 7), -1);
        due("target 6", x.substitute(6, 0, 0), -2);
        due("source -1", x.substitute(0, -1, 7), -2);
        due("within one register", x.substitute(0, 0, 2), 3);
        due("the result", show(x, 0), "2-q^2+3q^10");
        x.reset(24);
        put(x, 0, "1+q^3+q^23");
        due("at precision 24", x.substitute(0, 0, 6), 2);
        due("the result", show(x, 0), "1+q^18");
    }

    private static void product() {
        promise = 13;
        BaileyChain x = new BaileyChain();
        due("Euler's pentagonal numbers", x.product(0, 1, 1, 1), 5);
        due("the product", show(x, 0), "1-q-q^2+q^5+q^7");
        due("partitions", x.product(0, 1, 1, -1), 12);
        due("coefficient", x.coefficient(0, 11), 56);
        due("without residues", x.product(0, 5, 0, -3), 1);
        due("the product", show(x, 0), "1");
        due("exponent 0", x.product(0, 1, 1, 0), 1);
        due("odd factors", x.product(0, 2, 2, -1), 12);
        due("coefficient", x.coefficient(0, 11), 12);
        due("multiples of 12", x.product(0, 12, 1, 1), 1);
        due("multiples of 11", x.product(0, 11, 1, 1), 2);
        due("the product", show(x, 0), "1-q^11");
        due("squared", x.product(0, 12, 4, 2), 3);
        due("the product", show(x, 0), "1-2q^2+q^4");
        due("cubed inverse", x.product(0, 12, 16, -3), 3);
        due("the product", show(x, 0), "1+3q^4+6q^8");
        due("cubed", x.product(1, 12, 16, 3), 3);
        due("the product", show(x, 1), "1-3q^4+3q^8");
        due("target 6", x.product(6, 0, 0, 4), -2);
        due("modulus 0", x.product(0, 0, 0, 1), -1);
        due("modulus 13", x.product(0, 13, 0, 1), -1);
        due("residues -1", x.product(0, 12, -1, 1), -1);
        due("residues 2^modulus", x.product(0, 3, 8, 1), -1);
        due("residues 2^modulus - 1", x.product(1, 3, 7, 1), 5);
        due("residues 4096", x.product(0, 12, 4096, 1), -1);
        due("exponent 4", x.product(0, 1, 1, 4), -1);
        due("exponent -4", x.product(0, 1, 1, -4), -1);
        due("unchanged", show(x, 0), "1+3q^4+6q^8");
        x.reset(24);
        due("the largest product", x.product(0, 12, 4095, -3), 24);
        due("coefficient", x.coefficient(0, 23), 1183221);
    }

    private static void firstDifference() {
        promise = 14;
        BaileyChain x = new BaileyChain();
        due("zeros", x.firstDifference(0, 5), -7);
        put(x, 0, "1+q^4+q^11");
        put(x, 1, "1+q^4");
        put(x, 2, "1-q^4");
        due("at 11", x.firstDifference(0, 1), 11);
        due("at 4", x.firstDifference(1, 2), 4);
        due("at 0", x.firstDifference(3, 2), 0);
        due("itself", x.firstDifference(2, 2), -7);
        due("left 6", x.firstDifference(6, 0), -2);
        due("right -1", x.firstDifference(0, -1), -2);
    }

    private static void valueAt() {
        promise = 15;
        BaileyChain x = new BaileyChain();
        put(x, 0, "1-q+3q^5");
        due("at 0", x.valueAt(0, 0), 1);
        due("at 1", x.valueAt(0, 1), 3);
        due("at 2", x.valueAt(0, 2), 95);
        due("at -1", x.valueAt(0, -1), 1000002);
        due("at 1000003", x.valueAt(0, 1000003), 1);
        due("at -1000003", x.valueAt(0, -1000003), 1);
        x.reset(24);
        put(x, 0, "1-q+3q^5");
        due("at 2 and precision 24", x.valueAt(0, 2), 95);
        put(x, 1, "q^23");
        due("2^23", x.valueAt(1, 2), 8388608 % 1000003);
        put(x, 1, "q^11");
        due("2^31 - 1, to the power 1", lineAt(x, HIGHEST), Math.floorMod((long) HIGHEST, 1000003L));
        due("-2^31, to the power 1", lineAt(x, LOWEST), Math.floorMod((long) LOWEST, 1000003L));
        due("3^11", x.valueAt(1, 3), 177147);
        due("(-3)^11", x.valueAt(1, -3), 1000003 - 177147);
        x.setCoefficient(2, 0, -LIMIT);
        due("-100000000", x.valueAt(2, 7), Math.floorMod(-LIMIT, 1000003));
        due("register 6", x.valueAt(6, 0), -2);
        due("register -1", x.valueAt(-1, 0), -2);
    }

    private static int lineAt(BaileyChain x, int point) {
        put(x, 4, "q");
        return x.valueAt(4, point);
    }

    private static void statistic() {
        promise = 16;
        BaileyChain x = new BaileyChain();
        put(x, 0, "-3-q^2+2q^3+2q^4-7q^6+5q^9");
        due("nonzero", x.statistic(0, 0), 6);
        due("negative", x.statistic(0, 1), 3);
        due("sign changes", x.statistic(0, 2), 3);
        due("largest", x.statistic(0, 3), 7);
        due("records: -3, 0, 2, 5", x.statistic(0, 4), 4);
        for (int kind = 0; kind < 4; kind++) {
            due("of 0, kind " + kind, x.statistic(1, kind), 0);
        }
        due("records of 0", x.statistic(1, 4), 1);
        put(x, 1, "2+2q+3q^11");
        due("equal ones are no records", x.statistic(1, 4), 2);
        x.setCoefficient(2, 0, -LIMIT);
        due("largest", x.statistic(2, 3), LIMIT);
        due("negative", x.statistic(2, 1), 1);
        put(x, 1, "1-1q+2q^2+3q^3+4q^4");
        due("sign changes", x.statistic(1, 2), 2);
        due("records", x.statistic(1, 4), 4);
        put(x, 1, "1+2q+q^2-q^3-q^11");
        due("one sign change", x.statistic(1, 2), 1);
        due("records", x.statistic(1, 4), 2);
        put(x, 1, "-1-2q-3q^11");
        due("no sign change", x.statistic(1, 2), 0);
        put(x, 1, "q^3+q^5");
        due("no sign change", x.statistic(1, 2), 0);
        x.reset(24);
        put(x, 0, "-2q+q^22-9q^23");
        int[] atTwentyFour = {3, 2, 2, 9, 2};
        for (int kind = 0; kind < 5; kind++) {
            due("at precision 24, kind " + kind, x.statistic(0, kind), atTwentyFour[kind]);
        }
        due("kind -1", x.statistic(0, -1), -1);
        due("kind 5", x.statistic(0, 5), -1);
        due("register 6", x.statistic(6, 5), -2);
        due("register -1", x.statistic(-1, -1), -2);
    }

    private static void registerByRank() {
        promise = 17;
        BaileyChain x = new BaileyChain();
        for (int rank = 0; rank < 6; rank++) {
            due("of zeros", x.registerByRank(rank), rank);
        }
        put(x, 1, "q^2+q^5");
        put(x, 2, "q^2+q^9");
        put(x, 4, "7q^2+q^3-q^5");
        put(x, 5, "1");
        int[] ranked = {5, 2, 1, 4, 0, 3};
        for (int rank = 0; rank < 6; rank++) {
            due("rank " + rank, x.registerByRank(rank), ranked[rank]);
        }
        due("rank -1", x.registerByRank(-1), -1);
        due("rank 6", x.registerByRank(6), -1);
    }

    private static void unitPair() {
        promise = 18;
        BaileyChain x = new BaileyChain();
        x.step();
        due("unitPair(2)", x.unitPair(2), -1);
        due("unitPair(-1)", x.unitPair(-1), -1);
        due("chainLength", x.chainLength(), 1);
        due("unitPair(1)", x.unitPair(1), 0);
        due("chainLength", x.chainLength(), 0);
        due("undoStep", x.undoStep(), -5);
        due("alpha(0)", alpha(x, 0), "1");
        due("alpha(1)", alpha(x, 1), "-1-q-q^2");
        due("alpha(2)", alpha(x, 2), "q+q^2+q^3+q^4+q^5");
        due("alpha(3)", alpha(x, 3), "-q^3-q^4-q^5-q^6-q^7-q^8-q^9");
        due("alpha(4)", alpha(x, 4), "q^6+q^7+q^8+q^9+q^10+q^11");
        due("beta(0)", beta(x, 0), "1");
        due("beta(4)", beta(x, 4), "0");
        put(x, 1, "2+q");
        due("setBeta(0, 1)", x.setBeta(0, 1), 1);
        due("unitPair(0)", x.unitPair(0), 0);
        due("beta(0)", beta(x, 0), "1");
        due("alpha(3)", alpha(x, 3), "-q^3-q^6");
        due("alpha(4)", alpha(x, 4), "q^6+q^10");
        due("registers stay", x.order(0), -7);
    }

    private static void setAlpha() {
        promise = 19;
        BaileyChain x = new BaileyChain();
        put(x, 0, "1");
        for (int n = 1; n < 5; n++) {
            due("setAlpha", x.setAlpha(n, 1), 1);
        }
        x.reset(5);
        put(x, 0, "1");
        for (int n = 1; n < 4; n++) {
            due("setAlpha", x.setAlpha(n, 1), 1);
        }
        due("alpha(4) is 0 modulo q^5", x.setAlpha(4, 1), 0);
        due("setAlpha to what it is", x.setAlpha(0, 0), 0);
        due("beta(0)", beta(x, 0), "1");
        due("beta(1) = 1/(1 - q)^2", beta(x, 1), "1+2q+3q^2+4q^3+5q^4");
        due("beta(2)", beta(x, 2), "1+2q+5q^2+8q^3+14q^4");
        x.unitPair(1);
        due("setAlpha(1, 1)", x.setAlpha(1, 1), 1);
        due("beta(1) = 1/((1 - q)(1 - q^2))", beta(x, 1), "1+q+2q^2+2q^3+3q^4");
        x.step();
        due("setAlpha to what it is", x.setAlpha(0, 0), 0);
        due("chainLength", x.chainLength(), 0);
        due("undoStep", x.undoStep(), -5);
        due("register 6", x.setAlpha(5, 6), -2);
        due("register -1", x.setAlpha(-1, -1), -2);
        due("n = 5", x.setAlpha(5, 0), -1);
        due("n = -1", x.setAlpha(-1, 0), -1);
        put(x, 3, "3-q^2");
        due("setAlpha(0, 3)", x.setAlpha(0, 3), 1);
        due("beta(0) is alpha(0)", beta(x, 0), "3-q^2");
        x.unitPair(0);
        x.step();
        x.setCoefficient(2, 0, 51000000);
        due("too large at beta(1)", x.setAlpha(0, 2), -3);
        due("chainLength", x.chainLength(), 1);
        due("alpha(0)", alpha(x, 0), "1");
        due("beta(1)", beta(x, 1), "1+q+q^2+q^3+q^4");
        x.setCoefficient(2, 0, 0);
        x.setCoefficient(2, 4, LIMIT);
        due("beta(4) at 4 has 5 already", x.setAlpha(4, 2), -3);
        x.setCoefficient(2, 4, LIMIT - 5);
        due("the largest", x.setAlpha(4, 2), 1);
        due("beta(4)", beta(x, 4), "1+q+2q^2+3q^3+100000000q^4");
        x.setCoefficient(2, 4, LIMIT);
        x.unitPair(0);
        due("alpha(4) at 4", alpha(x, 4), "0");
        due("the largest", x.setAlpha(4, 2), 1);
        due("beta(4)", beta(x, 4), "100000000q^4");
        x.setCoefficient(2, 3, 1);
        due("one too large", x.setAlpha(4, 2), -3);
    }

    private static void setBeta() {
        promise = 20;
        BaileyChain x = new BaileyChain();
        x.reset(6);
        put(x, 0, "1");
        due("setBeta(1, 0)", x.setBeta(1, 0), 1);
        due("alpha(0)", alpha(x, 0), "1");
        due("alpha(1) = -1 - q + (1 - q)(1 - q^2)", alpha(x, 1), "-2q-q^2+q^3");
        due("beta(1)", beta(x, 1), "1");
        due("setBeta(1, 0)", x.setBeta(1, 0), 0);
        x.step();
        x.copyBeta(1, 0);
        due("setBeta to what it is", x.setBeta(0, 1), 0);
        due("chainLength", x.chainLength(), 0);
        due("undoStep", x.undoStep(), -5);
        due("register 6", x.setBeta(5, 6), -2);
        due("register -1", x.setBeta(-1, -1), -2);
        due("n = 5", x.setBeta(5, 0), -1);
        due("n = -1", x.setBeta(-1, 0), -1);
        x.unitPair(0);
        x.step();
        x.setCoefficient(2, 0, LIMIT);
        x.setCoefficient(2, 1, LIMIT);
        due("alpha(1) too large", x.setBeta(0, 2), -3);
        due("chainLength", x.chainLength(), 1);
        due("beta(0)", beta(x, 0), "1");
        due("alpha(1)", alpha(x, 1), "-q-q^2");
        due("undoStep", x.undoStep(), 0);
        x.setCoefficient(2, 1, 0);
        due("the largest, by the unit pair", x.setBeta(0, 2), 1);
        due("alpha(2)", alpha(x, 2), "100000000q+100000000q^3");
        x.setCoefficient(3, 0, -1);
        due("alpha(1) one too large", x.setBeta(1, 3), -3);
        due("beta(1)", beta(x, 1), "0");
        x.setCoefficient(3, 0, 0);
        x.unitPair(1);
        put(x, 3, "q^2");
        due("setBeta(1, 3)", x.setBeta(1, 3), 1);
        due("alpha(1) = -1 - q - q^2 + q^2 (1 - q^2)(1 - q^3)", alpha(x, 1), "-1-q-q^4-q^5");
    }

    private static void step() {
        promise = 21;
        BaileyChain x = new BaileyChain();
        x.reset(10);
        due("step", x.step(), 1);
        due("alpha(0)", alpha(x, 0), "1");
        due("alpha(1)", alpha(x, 1), "-q-q^2");
        due("alpha(2)", alpha(x, 2), "q^5+q^7");
        due("alpha(3)", alpha(x, 3), "0");
        due("beta(0)", beta(x, 0), "1");
        due("beta(1)", beta(x, 1), "1+q+q^2+q^3+q^4+q^5+q^6+q^7+q^8+q^9");
        due("beta(2)", beta(x, 2), "1+q+2q^2+2q^3+3q^4+3q^5+4q^6+4q^7+5q^8+5q^9");
        due("step", x.step(), 2);
        due("alpha(1)", alpha(x, 1), "-q^2-q^3");
        due("alpha(2)", alpha(x, 2), "q^9");
        due("beta(1) = (1 + q)/(1 - q) - q/(1 - q)", beta(x, 1).substring(0, 9), "1+2q+2q^2");
        x.unitPair(1);
        due("step", x.step(), 1);
        due("alpha(1)", alpha(x, 1), "-q^2-q^3-q^4");
        due("beta(1)", beta(x, 1), "1+q+q^2+q^3+q^4+q^5+q^6+q^7+q^8+q^9");
        due("step", x.step(), 2);
        due("beta(1)", beta(x, 1), "1+q+2q^2+2q^3+2q^4+2q^5+2q^6+2q^7+2q^8+2q^9");
        x.reset(4);
        x.setCoefficient(0, 0, LIMIT);
        due("setBeta(0, 0)", x.setBeta(0, 0), 1);
        due("beta(2) too large", x.step(), -3);
        due("chainLength", x.chainLength(), 0);
        due("undoStep", x.undoStep(), -5);
        due("beta(1)", beta(x, 1), "0");
        x.setCoefficient(0, 0, 33333333);
        due("setBeta(0, 0)", x.setBeta(0, 0), 1);
        due("3 times 33333333", x.step(), 1);
        due("beta(4)", beta(x, 4), "33333333+33333333q+66666666q^2+99999999q^3");
        due("too large", x.step(), -3);
        due("chainLength", x.chainLength(), 1);
        due("undoStep", x.undoStep(), 0);
    }

    private static void undoStep() {
        promise = 22;
        BaileyChain x = new BaileyChain();
        due("nothing", x.undoStep(), -5);
        x.unitPair(1);
        x.step();
        String before = alpha(x, 1) + " " + beta(x, 4);
        x.step();
        due("undoStep", x.undoStep(), 1);
        due("the pair", alpha(x, 1) + " " + beta(x, 4), before);
        due("undoStep", x.undoStep(), 0);
        due("beta(4)", beta(x, 4), "0");
        due("undoStep", x.undoStep(), -5);
        for (int i = 1; i <= 11; i++) {
            due("step", x.step(), i);
            if (i == 3) {
                before = beta(x, 4);
            }
        }
        for (int i = 10; i >= 3; i--) {
            due("undoStep", x.undoStep(), i);
        }
        due("beta(4) after three steps", beta(x, 4), before);
        due("a ninth undoStep", x.undoStep(), -5);
        due("chainLength", x.chainLength(), 3);
        due("step", x.step(), 4);
        due("undoStep", x.undoStep(), 3);
        due("undoStep", x.undoStep(), -5);
        x.setAlpha(0, 0);
        due("after setAlpha", x.undoStep(), -5);
        undoAtTheHighestPrecision();
    }

    private static void undoAtTheHighestPrecision() {
        BaileyChain x = new BaileyChain();
        x.reset(24);
        String[] pairs = new String[15];
        for (int i = 0; i < 15; i++) {
            pairs[i] = alphaMark(x, 1) + ", " + betaMark(x, 4);
            x.step();
        }
        for (int i = 14; i >= 7; i--) {
            due("undoStep", x.undoStep(), i);
            due("the pair before it", alphaMark(x, 1) + ", " + betaMark(x, 4), pairs[i]);
        }
    }

    private static void chainLength() {
        promise = 23;
        BaileyChain x = new BaileyChain();
        due("of a new object", x.chainLength(), 0);
        for (int i = 1; i <= 20; i++) {
            x.step();
            due("after steps", x.chainLength(), i);
        }
        x.undoStep();
        due("after undoStep", x.chainLength(), 19);
        x.unitPair(0);
        due("after unitPair", x.chainLength(), 0);
        x.step();
        x.copyAlpha(0, 0);
        x.setAlpha(0, 0);
        due("after setAlpha", x.chainLength(), 0);
        x.step();
        x.copyBeta(0, 0);
        x.setBeta(0, 0);
        due("after setBeta", x.chainLength(), 0);
        x.step();
        x.reset(12);
        due("after reset", x.chainLength(), 0);
    }

    private static void copyAlpha() {
        promise = 24;
        BaileyChain x = new BaileyChain();
        due("copyAlpha(2, 2)", x.copyAlpha(2, 2), 2);
        due("the copy", show(x, 2), "q+q^3");
        x.setCoefficient(2, 0, 9);
        due("alpha(2) is not the register", alpha(x, 2), "q+q^3");
        due("n = 5", x.copyAlpha(0, 5), -1);
        due("n = -1", x.copyAlpha(0, -1), -1);
        due("register 6", x.copyAlpha(6, 5), -2);
        due("register -1", x.copyAlpha(-1, -1), -2);
        due("unchanged", x.order(0), -7);
        x.step();
        due("copyAlpha(2, 4)", x.copyAlpha(2, 4), 0);
        due("the copy", show(x, 2), "0");
    }

    private static void copyBeta() {
        promise = 25;
        BaileyChain x = new BaileyChain();
        x.reset(4);
        x.step();
        due("copyBeta(2, 3)", x.copyBeta(2, 3), 4);
        due("the copy", show(x, 2), "1+q+2q^2+3q^3");
        x.setCoefficient(2, 0, 9);
        due("beta(3) is not the register", beta(x, 3), "1+q+2q^2+3q^3");
        due("n = 5", x.copyBeta(0, 5), -1);
        due("n = -1", x.copyBeta(0, -1), -1);
        due("register 6", x.copyBeta(6, 5), -2);
        due("register -1", x.copyBeta(-1, -1), -2);
        due("unchanged", x.order(0), -7);
        due("copyBeta(2, 0)", x.copyBeta(2, 0), 1);
        due("the copy", show(x, 2), "1");
    }

    private static void sumSide() {
        promise = 26;
        BaileyChain x = new BaileyChain();
        x.reset(24);
        due("of the unit pair", x.sumSide(3), 1);
        x.step();
        due("Rogers-Ramanujan", x.sumSide(0), 24);
        x.product(1, 5, 18, -1);
        due("the sum is the product", x.firstDifference(0, 1), -7);
        x.unitPair(1);
        x.step();
        due("Rogers-Ramanujan", x.sumSide(0), 23);
        x.product(1, 5, 12, -1);
        due("the sum is the product", x.firstDifference(0, 1), -7);
        x.step();
        x.sumSide(0);
        x.product(1, 7, 4 + 8 + 16 + 32, -1);
        due("Andrews-Gordon", x.firstDifference(0, 1), -7);
        due("register 6", x.sumSide(6), -2);
        due("register -1", x.sumSide(-1), -2);
        largeSides(x, 50000000);
        due("the largest", x.sumSide(3), 1);
        due("the sum", show(x, 3), "100000000q^3");
        put(x, 3, "5");
        largeSides(x, 50000001);
        put(x, 3, "5");
        due("too large", x.sumSide(3), -3);
        due("unchanged", show(x, 3), "5");
    }

    /** Makes a pair with the series in range and both sides 2 c q^3. */
    private static void largeSides(BaileyChain x, int c) {
        x.reset(4);
        x.setCoefficient(0, 3, c);
        x.setCoefficient(1, 2, c);
        x.setCoefficient(1, 3, 0);
        due("setBeta(0, 0)", x.setBeta(0, 0), 1);
        x.setCoefficient(1, 3, c);
        due("setBeta(1, 1)", x.setBeta(1, 1), 1);
    }

    private static void productSide() {
        promise = 27;
        BaileyChain x = new BaileyChain();
        x.reset(24);
        due("of the unit pair", x.productSide(3), 1);
        x.step();
        due("Rogers-Ramanujan", x.productSide(0), 24);
        x.product(1, 5, 18, -1);
        due("the sum is the product", x.firstDifference(0, 1), -7);
        x.unitPair(1);
        x.step();
        due("Rogers-Ramanujan", x.productSide(0), 23);
        x.product(1, 5, 12, -1);
        due("the sum is the product", x.firstDifference(0, 1), -7);
        x.reset(8);
        for (int n = 1; n < 5; n++) {
            x.setAlpha(n, 1);
        }
        due("1/(q)", x.productSide(0), 8);
        due("partitions", show(x, 0), "1+q+2q^2+3q^3+5q^4+7q^5+11q^6+15q^7");
        x.unitPair(1);
        for (int n = 1; n < 5; n++) {
            x.setAlpha(n, 1);
        }
        due("1/(q^2)", x.productSide(0), 7);
        due("partitions without ones", show(x, 0), "1+q^2+q^3+2q^4+2q^5+4q^6+4q^7");
        due("register 6", x.productSide(6), -2);
        due("register -1", x.productSide(-1), -2);
        largeSides(x, 50000000);
        due("the largest", x.productSide(3), 1);
        due("the sum", show(x, 3), "100000000q^3");
        largeSides(x, 50000001);
        put(x, 3, "5");
        due("too large", x.productSide(3), -3);
        due("unchanged", show(x, 3), "5");
    }

    private static void countPartitions() {
        promise = 28;
        BaileyChain x = new BaileyChain();
        due("p(60)", x.countPartitions(60, 1, 1), 966467);
        due("p(60)", x.countPartitions(60, 12, 4095), 966467);
        due("p(5)", x.countPartitions(5, 1, 1), 7);
        due("p(0)", x.countPartitions(0, 7, 0), 1);
        due("without parts", x.countPartitions(1, 7, 0), 0);
        due("odd parts", x.countPartitions(5, 2, 2), 3);
        due("even parts", x.countPartitions(6, 2, 1), 3);
        due("even parts of an odd integer", x.countPartitions(7, 2, 1), 0);
        due("parts 1 and 4 modulo 5", x.countPartitions(11, 5, 18), 7);
        due("parts of remainder 11", x.countPartitions(22, 12, 2048), 1);
        due("n = -1", x.countPartitions(-1, 1, 1), Long.MIN_VALUE);
        due("n = 61", x.countPartitions(61, 1, 1), Long.MIN_VALUE);
        due("modulus 0", x.countPartitions(5, 0, 0), Long.MIN_VALUE);
        due("modulus 13", x.countPartitions(5, 13, 0), Long.MIN_VALUE);
        due("residues -1", x.countPartitions(5, 12, -1), Long.MIN_VALUE);
        due("residues 2", x.countPartitions(5, 1, 2), Long.MIN_VALUE);
        due("residues 4096", x.countPartitions(5, 12, 4096), Long.MIN_VALUE);
        due("p(60) again", x.countPartitions(60, 1, 1), 966467);
    }

    private static void listPartitions() {
        promise = 29;
        BaileyChain x = new BaileyChain();
        int[] counts = {1, 2, 3, 5, 7, 11, 15, 22, 30, 42, 56, 77, 101, 135, 176, 231};
        for (int n = 16; n >= 1; n--) {
            due("listPartitions", x.listPartitions(n), counts[n - 1]);
            due("the first", x.part(0, 0), n);
            due("the last", x.part(counts[n - 1] - 1, n - 1), 1);
            due("beyond the last", x.part(counts[n - 1], 0), -7);
        }
        x.listPartitions(5);
        String[] ofFive = {"5", "4 1", "3 2", "3 1 1", "2 2 1", "2 1 1 1", "1 1 1 1 1", ""};
        for (int i = 0; i < ofFive.length; i++) {
            due("partition", partition(x, i), ofFive[i]);
        }
        due("n = 0", x.listPartitions(0), -1);
        due("n = 17", x.listPartitions(17), -1);
        due("n = -1", x.listPartitions(-1), -1);
        due("unchanged", partition(x, 1), "4 1");
    }

    private static void filterPartitions() {
        promise = 30;
        BaileyChain x = new BaileyChain();
        due("of an empty list", filter(x, "odd"), 0);
        String[] words = {"distinct", "odd", "gap", "noones", "even", "selfconjugate"};
        int[] left = {5, 5, 3, 4, 7, 1};
        String[] first = {"7", "7", "7", "7", "6 1", "4 1 1 1"};
        for (int i = 0; i < words.length; i++) {
            due("listPartitions(7)", x.listPartitions(7), 15);
            due(words[i], filter(x, words[i]), left[i]);
            due("the first", partition(x, 0), first[i]);
            due("beyond the last", x.part(left[i], 0), -7);
            due("the word is consumed", x.clearInput(), 0);
        }
        x.listPartitions(7);
        due("even", filter(x, "even"), 7);
        due("and distinct", filter(x, "distinct"), 3);
        due("the second", partition(x, 1), "5 2");
        due("and odd", filter(x, "odd"), 0);
        due("none is left", x.part(0, 0), -7);
        x.listPartitions(7);
        for (String bad : new String[] {"", "Odd", "odd ", " odd", "od", "oddo", "distinctodd", "gap\0"}) {
            due("the word " + bad, filter(x, bad), -1);
            due("the word is consumed", x.clearInput(), 0);
            due("the list stays", x.part(14, 6), 1);
        }
        x.listPartitions(8);
        due("selfconjugate of 8", filter(x, "selfconjugate"), 2);
        due("the first", partition(x, 0), "4 2 1 1");
        due("the second", partition(x, 1), "3 3 2");
        x.listPartitions(16);
        due("gap of 16", filter(x, "gap"), 17);
        x.listPartitions(1);
        due("noones of 1", filter(x, "noones"), 0);
    }

    private static void part() {
        promise = 31;
        BaileyChain x = new BaileyChain();
        due("negative indices come first", x.part(0, -1), -1);
        due("negative indices come first", x.part(-1, 0), -1);
        due("negative indices come first", x.part(HIGHEST, LOWEST), -1);
        due("of an empty list", x.part(0, 0), -7);
        x.listPartitions(16);
        due("part(0, 0)", x.part(0, 0), 16);
        due("part(0, 1)", x.part(0, 1), -7);
        due("part(1, 1)", x.part(1, 1), 1);
        due("part(230, 15)", x.part(230, 15), 1);
        due("part(230, 16)", x.part(230, 16), -7);
        due("part(231, 0)", x.part(231, 0), -7);
        due("the highest index", x.part(HIGHEST, 0), -7);
        due("the highest part", x.part(0, HIGHEST), -7);
    }

    private static void append() {
        promise = 32;
        BaileyChain x = new BaileyChain();
        due("count 0", x.append(65, 0), -1);
        due("count 5", x.append(65, 5), -1);
        due("count -1", x.append(65, -1), -1);
        due("a byte of 128", x.append(128, 1), -1);
        due("a byte of 255", x.append(-1, 4), -1);
        due("a byte of 128 ahead", x.append(0x80000000, 4), -1);
        due("a byte of 128 in the middle", x.append(0x00800000, 4), -1);
        due("nothing was appended", x.clearInput(), 0);
        due("only the bytes that are appended", x.append(0x80808071, 1), 1);
        due("the highest byte", x.append(0x7f, 1), 2);
        due("fault at the second", x.parseSeries(0), -1001);
        due("the most significant first", x.append(0x2d33715e, 4), 4);
        due("two more", x.append(0x80803131, 2), 6);
        due("parseSeries", x.parseSeries(0), 1);
        due("the series", show(x, 0), "-3q^11");
        for (int i = 1; i <= 14; i++) {
            due("append", x.append(0, 4), 4 * i);
        }
        due("three", x.append(0, 3), 59);
        due("too many", x.append(0, 2), -6);
        due("a wrong byte comes first", x.append(0x80, 2), -1);
        due("a wrong count comes first", x.append(0, 5), -1);
        due("one", x.append(0, 1), 60);
        due("too many", x.append(0, 1), -6);
        due("clearInput", x.clearInput(), 60);
    }

    private static void clearInput() {
        promise = 33;
        BaileyChain x = new BaileyChain();
        due("of a new object", x.clearInput(), 0);
        type(x, "abc");
        due("three", x.clearInput(), 3);
        due("none", x.clearInput(), 0);
        due("parseSeries", parse(x, 0, "7"), 1);
        due("the series", show(x, 0), "7");
    }

    private static void parseSeries() {
        promise = 34;
        String[] good = {
            "0", "0", "1-q+3q^5", "1-q+3q^5", "-q", "-q", "q", "q", "q^0", "1", "-q^2-3", "-3-q^2", "0001", "1",
            "q^00", "1", "q^01+q^1", "2q", "9999q^11", "9999q^11", "q^12", "0", "7q^99+1", "1", "1+1+1-5", "-2",
            "q-q", "0", "0q^3+2q^3-3q^03", "-q^3", "-0", "0", "2q", "2q", "-1q", "-q", "9999+9999", "19998",
        };
        for (int i = 0; i < good.length; i += 2) {
            BaileyChain x = new BaileyChain();
            due("terms of " + good[i], parse(x, 1, good[i]), x.statistic(1, 0));
            due("the series " + good[i], show(x, 1), good[i + 1]);
            due("the text is consumed", x.clearInput(), 0);
        }
        String[] bad = {
            "", "-", "+", "+1", "--1", "1+", "1-", "1++1", "1+-1", "12345", "q^", "q^q", "q^123", "1q^123", "1q2", "qq",
            "2qq", "1^2", "^", "q^-1", "1 +1", "a", "Q", "1+a", "q^99x", "q^1+1234q^12345", "1+12345", "9q^+", "1*q",
            "q^:", "/", ":", "1\0", "q^1q",
        };
        int[] position = {
            0, 1, 0, 0, 1, 2, 2, 2, 2, 4, 2, 2, 4, 5, 2, 1, 2, 1, 0, 2, 1, 0, 0, 2, 4, 12, 6, 3, 1, 2, 0, 0, 1, 3,
        };
        for (int i = 0; i < bad.length; i++) {
            BaileyChain x = new BaileyChain();
            due("terms", parse(x, 1, "1-q+3q^5+q^20"), 3);
            due("the text " + bad[i], parse(x, 1, bad[i]), -1000 - position[i]);
            due("the text is consumed", x.clearInput(), 0);
            due("unchanged", show(x, 1), "1-q+3q^5");
        }
        parseSeriesWithFullBuffer();
    }

    private static void parseSeriesWithFullBuffer() {
        BaileyChain x = new BaileyChain();
        type(x, "2q");
        due("register 6", x.parseSeries(6), -2);
        due("register -1", x.parseSeries(-1), -2);
        due("the text stayed", x.parseSeries(2), 1);
        due("the series", show(x, 2), "2q");
        StringBuilder longest = new StringBuilder("9999");
        for (int i = 0; i < 11; i++) {
            longest.append("+9999");
        }
        due("the longest sum", parse(x, 3, longest.toString()), 1);
        due("the series", show(x, 3), "119988");
        due("too early at 60", parse(x, 3, longest.substring(0, 59) + "+"), -1060);
        x.reset(4);
        due("powers of 4 and more do not exist", parse(x, 0, "q^3+q^4"), 1);
    }

    private static void format() {
        promise = 35;
        BaileyChain x = new BaileyChain();
        due("format of 0", x.format(0), 1);
        due("format of 0", show(x, 0), "0");
        String[] texts = {
            "1", "-1", "q", "-q", "2q", "-2q", "q^2", "-q^11", "1+q", "1-q", "-1-q-q^2", "10q^10", "2+3q-4q^5+q^11", "101",
        };
        for (String text : texts) {
            put(x, 0, text);
            due("format", x.format(0), text.length());
            due("format", show(x, 0), text);
            due("nothing after it", x.outputByte(text.length()), -7);
        }
        due("register 6", x.format(6), -2);
        due("register -1", x.format(-1), -2);
        due("the text stays", x.outputByte(2), '1');
        formatLongest();
    }

    private static void formatLongest() {
        BaileyChain x = new BaileyChain();
        x.reset(24);
        StringBuilder want = new StringBuilder();
        for (int k = 0; k < 24; k++) {
            x.setCoefficient(0, k, -LIMIT);
            want.append("-100000000").append(k == 0 ? "" : k == 1 ? "q" : "q^" + k);
        }
        due("the longest text", x.format(0), want.length());
        due("the longest text", show(x, 0), want.toString());
        x.setCoefficient(1, 3, 90807060);
        due("zeros in a number", show(x, 1), "90807060q^3");
    }

    private static void outputByte() {
        promise = 36;
        BaileyChain x = new BaileyChain();
        due("of an empty buffer", x.outputByte(0), -7);
        x.format(0);
        due("outputByte(0)", x.outputByte(0), '0');
        due("outputByte(1)", x.outputByte(1), -7);
        due("outputByte(-1)", x.outputByte(-1), -7);
        due("outputByte(lowest)", x.outputByte(LOWEST), -7);
        due("outputByte(highest)", x.outputByte(HIGHEST), -7);
        put(x, 0, "1-2q^3");
        due("the text stays", x.outputByte(0), '0');
        x.format(0);
        String text = "1-2q^3";
        for (int i = 0; i < text.length(); i++) {
            due("outputByte", x.outputByte(i), text.charAt(i));
        }
        x.format(1);
        due("a shorter text", x.outputByte(1), -7);
    }

    private static void allocate() {
        promise = 37;
        BaileyChain x = new BaileyChain();
        due("allocate(0, 0, 40)", x.allocate(0, 0, 40), 40);
        due("allocate(3, 3, 0)", x.allocate(3, 3, 0), 0);
        due("element(3, 0)", x.element(3, 0), Long.MIN_VALUE);
        due("slot 4", x.allocate(4, 0, -1), -1);
        due("slot -1", x.allocate(-1, 0, -1), -1);
        due("type 4", x.allocate(0, 4, -1), -1);
        due("type -1", x.allocate(0, -1, -1), -1);
        due("size 41", x.allocate(0, 0, 41), -1);
        due("size -1", x.allocate(0, 0, -1), -14);
        due("the lowest size", x.allocate(0, 0, LOWEST), -14);
        due("the array stays", x.element(0, 39), 0);
        x.putElement(0, 39, 5);
        due("allocate again", x.allocate(0, 2, 40), 40);
        due("filled with 0", x.element(0, 39), 0);
        x.putElement(0, 1, 1L << 30);
        due("the new type", x.element(0, 1), 1L << 30);
        due("smaller", x.allocate(0, 2, 2), 2);
        due("beyond the end", x.element(0, 2), Long.MIN_VALUE);
    }

    private static void release() {
        promise = 38;
        BaileyChain x = new BaileyChain();
        due("empty", x.release(0), 0);
        x.allocate(0, 0, 0);
        x.allocate(1, 0, 1);
        due("held", x.release(0), 1);
        due("empty again", x.release(0), 0);
        due("the other slot stays", x.element(1, 0), 0);
        due("slot 4", x.release(4), -1);
        due("slot -1", x.release(-1), -1);
        due("release(1)", x.release(1), 1);
        due("element(1, 0)", x.element(1, 0), Long.MIN_VALUE);
        due("putElement(1, 0, 1)", x.putElement(1, 0, 1), -11);
    }

    private static void putElement() {
        promise = 39;
        BaileyChain x = new BaileyChain();
        long value = 0x123456789abcdef0L;
        for (int type = 0; type < 4; type++) {
            x.allocate(type, type, 2);
            due("putElement", x.putElement(type, 1, value), 1);
            due("the other element", x.element(type, 0), 0);
        }
        due("byte", x.element(0, 1), (byte) value);
        due("short", x.element(1, 1), (short) value);
        due("int", x.element(2, 1), (int) value);
        due("long", x.element(3, 1), value);
        x.putElement(0, 0, 128);
        due("128 as a byte", x.element(0, 0), -128);
        x.putElement(1, 0, -32769);
        due("-32769 as a short", x.element(1, 0), 32767);
        x.putElement(2, 0, 1L << 31);
        due("2^31 as an int", x.element(2, 0), LOWEST);
        x.putElement(3, 0, Long.MAX_VALUE);
        due("the largest long", x.element(3, 0), Long.MAX_VALUE);
        due("slot 4", x.putElement(4, -1, 0), -1);
        due("slot -1", x.putElement(-1, 0, 0), -1);
        due("index 2", x.putElement(0, 2, 0), -13);
        due("index -1", x.putElement(0, -1, 0), -13);
        x.release(0);
        due("empty", x.putElement(0, -1, 0), -11);
    }

    private static void element() {
        promise = 40;
        BaileyChain x = new BaileyChain();
        due("empty", x.element(0, 0), Long.MIN_VALUE);
        x.allocate(0, 3, 3);
        x.putElement(0, 2, -5);
        due("element(0, 2)", x.element(0, 2), -5);
        due("element(0, 0)", x.element(0, 0), 0);
        due("index 3", x.element(0, 3), Long.MIN_VALUE);
        due("index -1", x.element(0, -1), Long.MIN_VALUE);
        due("slot 4", x.element(4, 0), Long.MIN_VALUE);
        due("slot -1", x.element(-1, 0), Long.MIN_VALUE);
        due("slot 3", x.element(3, 0), Long.MIN_VALUE);
    }

    private static void copyElements() {
        promise = 41;
        BaileyChain x = new BaileyChain();
        x.allocate(0, 1, 6);
        x.allocate(1, 1, 4);
        x.allocate(2, 2, 6);
        for (int i = 0; i < 6; i++) {
            x.putElement(0, i, 10 + i);
        }
        due("between arrays", x.copyElements(0, 1, 1, 0, 3), 3);
        due("the copy", elements(x, 1), "11 12 13 0");
        due("upwards in one array", x.copyElements(0, 0, 0, 2, 4), 4);
        due("the copy", elements(x, 0), "10 11 10 11 12 13");
        due("downwards in one array", x.copyElements(0, 1, 0, 0, 5), 5);
        due("the copy", elements(x, 0), "11 10 11 12 13 13");
        due("none", x.copyElements(0, 6, 1, 4, 0), 0);
        due("source slot 4", x.copyElements(4, 0, 3, 0, -1), -1);
        due("source slot -1", x.copyElements(-1, 0, 3, 0, 0), -1);
        due("target slot 4", x.copyElements(3, 0, 4, 0, 0), -1);
        due("target slot -1", x.copyElements(0, 0, -1, 0, 0), -1);
        due("empty source", x.copyElements(3, -1, 0, 0, 0), -11);
        due("empty target", x.copyElements(0, -1, 3, 0, 0), -11);
        due("other types", x.copyElements(0, -1, 2, 0, -1), -12);
        due("source index -1", x.copyElements(0, -1, 1, 0, 1), -13);
        due("target index -1", x.copyElements(0, 0, 1, -1, 1), -13);
        due("count -1", x.copyElements(0, 1, 1, 1, -1), -13);
        due("beyond the source", x.copyElements(1, 2, 0, 0, 3), -13);
        due("beyond the target", x.copyElements(0, 0, 1, 2, 3), -13);
        due("index beyond the source, none", x.copyElements(0, 7, 1, 0, 0), -13);
        due("index beyond the target, none", x.copyElements(0, 0, 1, 5, 0), -13);
        due("the highest count", x.copyElements(0, 1, 1, 1, HIGHEST), -13);
        due("the highest index", x.copyElements(0, HIGHEST, 1, 0, 1), -13);
        due("the highest target", x.copyElements(0, 0, 1, HIGHEST, HIGHEST), -13);
        due("unchanged", elements(x, 0) + " " + elements(x, 1), "11 10 11 12 13 13 11 12 13 0");
    }

    private static String elements(BaileyChain x, int slot) {
        StringBuilder text = new StringBuilder();
        for (int i = 0; x.element(slot, i) != Long.MIN_VALUE; i++) {
            text.append(i == 0 ? "" : " ").append(x.element(slot, i));
        }
        return text.toString();
    }

    private static void compareWithArray() {
        promise = 42;
        BaileyChain x = new BaileyChain();
        x.reset(5);
        put(x, 1, "2-q^4");
        x.allocate(0, 3, 5);
        due("at 0", x.compareWithArray(0, 1), 0);
        x.putElement(0, 0, 2);
        due("at 4", x.compareWithArray(0, 1), 4);
        x.putElement(0, 4, -1);
        due("equal", x.compareWithArray(0, 1), -7);
        x.putElement(0, 4, 0xffffffffL);
        due("another long", x.compareWithArray(0, 1), 4);
        x.allocate(0, 3, 6);
        due("a longer array of zeros", x.compareWithArray(0, 0), 5);
        due("a longer array that differs", x.compareWithArray(0, 1), 0);
        x.allocate(0, 0, 2);
        due("a shorter array of zeros", x.compareWithArray(0, 0), 2);
        x.allocate(0, 0, 0);
        due("an array without elements", x.compareWithArray(0, 1), 0);
        x.allocate(1, 0, 40);
        x.allocate(2, 0, 24);
        x.reset(24);
        due("an array of 40", x.compareWithArray(1, 0), 24);
        due("an array of 24", x.compareWithArray(2, 0), -7);
        due("slot 4", x.compareWithArray(4, 6), -1);
        due("slot -1", x.compareWithArray(-1, 6), -1);
        due("register 6", x.compareWithArray(3, 6), -2);
        due("register -1", x.compareWithArray(0, -1), -2);
        due("empty", x.compareWithArray(3, 0), -11);
    }

    private static void snapshot() {
        promise = 43;
        BaileyChain x = new BaileyChain();
        due("snapshot", x.snapshot(), 12);
        x.reset(6);
        put(x, 0, "3q^5");
        x.unitPair(1);
        x.step();
        x.step();
        due("snapshot", x.snapshot(), 6);
        due("nothing changes", show(x, 0) + " " + x.chainLength(), "3q^5 2");
        x.setCoefficient(0, 0, 1);
        x.step();
        due("restore", x.restore(), 6);
        due("the later snapshot", show(x, 0) + " " + x.chainLength(), "3q^5 2");
        due("undoStep", x.undoStep(), 1);
        due("undoStep", x.undoStep(), 0);
        due("undoStep", x.undoStep(), -5);
        due("alpha(1)", alpha(x, 1), "-1-q-q^2");
    }

    private static void restore() {
        promise = 44;
        BaileyChain x = new BaileyChain();
        due("without a snapshot", x.restore(), -5);
        x.reset(24);
        put(x, 2, "q^23");
        x.unitPair(1);
        for (int i = 0; i < 9; i++) {
            x.step();
        }
        x.undoStep();
        String pair = wholePair(x);
        x.snapshot();
        x.listPartitions(3);
        type(x, "4q");
        x.format(2);
        x.allocate(1, 2, 3);
        x.putElement(1, 2, 8);
        for (int time = 0; time < 2; time++) {
            x.reset(4);
            put5(x);
            x.step();
            due("restore", x.restore(), 24);
            due("precision", x.precision(), 24);
            due("register 2", x.coefficient(2, 23), 1);
            due("register 0", x.order(0), -7);
            due("chainLength", x.chainLength(), 8);
            due("part(1, 1)", x.part(1, 1), 1);
            due("outputByte(0)", x.outputByte(0), 'q');
            due("element(1, 2)", x.element(1, 2), 8);
            for (int i = 7; i >= 1; i--) {
                due("undoStep", x.undoStep(), i);
            }
            due("undoStep", x.undoStep(), -5);
        }
        due("clearInput", x.clearInput(), 2);
        due("restore", x.restore(), 24);
        due("the pair", wholePair(x), pair);
        x.reset(24);
        x.restore();
        due("alpha(1) of r = 1", alpha(x, 1), "-q^16-q^17-q^18");
        due("step", x.step(), 9);
        due("alpha(1) of r = 1", alpha(x, 1), "-q^18-q^19-q^20");
        due("a snapshot of eight steps", x.snapshot(), 24);
        x.unitPair(0);
        due("restore", x.restore(), 24);
        for (int i = 8; i >= 1; i--) {
            due("undoStep", x.undoStep(), i);
        }
        due("undoStep", x.undoStep(), -5);
        restoredPairs();
    }

    private static void restoredPairs() {
        BaileyChain x = new BaileyChain();
        x.reset(9);
        x.unitPair(1);
        put(x, 0, "2-q");
        x.setBeta(0, 0);
        String[] pairs = new String[4];
        for (int i = 0; i < 4; i++) {
            pairs[i] = wholePair(x);
            x.step();
        }
        x.snapshot();
        x.reset(6);
        for (int i = 0; i < 6; i++) {
            x.step();
        }
        due("restore", x.restore(), 9);
        for (int i = 3; i >= 0; i--) {
            due("undoStep", x.undoStep(), i);
            due("the pair", wholePair(x), pairs[i]);
        }
        x.reset(5);
        due("restore", x.restore(), 9);
        for (int i = 0; i < 4; i++) {
            x.undoStep();
        }
        x.snapshot();
        x.reset(4);
        x.restore();
        for (int i = 1; i < 4; i++) {
            due("step", x.step(), i);
            due("the pair", wholePair(x), pairs[i]);
        }
        put(x, 0, "1-q");
        put(x, 1, "1");
        x.snapshot();
        x.reset(4);
        x.restore();
        due("a quotient at the restored precision", x.divide(1, 1, 0), 9);
        x.shift(1, 0, 8);
        due("a product at the restored precision", show(x, 1), "q^8");
    }

    private static String wholePair(BaileyChain x) {
        StringBuilder text = new StringBuilder();
        for (int n = 0; n < 5; n++) {
            text.append(alphaMark(x, n)).append(", ").append(betaMark(x, n)).append("; ");
        }
        return text.toString();
    }

    private static void put5(BaileyChain x) {
        x.setCoefficient(0, 0, 5);
        x.setBeta(0, 0);
    }
}
