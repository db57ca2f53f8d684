import java.math.BigInteger;
import java.util.ArrayDeque;
import java.util.ArrayList;
import java.util.Arrays;
import java.util.Collections;
import java.util.Deque;
import java.util.HashSet;
import java.util.List;
import java.util.Random;
import java.util.regex.Matcher;
import java.util.regex.Pattern;

/**
 * Runs of calls, made from fixed seeds, on the class and on a slow model of the document that is
 * written another way (big integers, closed formulas, regular expressions); the answers must agree.
 */
public final class ModelTests {
    private static final int RUNS = 800;
    /** With one text more, and what is read of the pairs, an object stays below the 512 calls that it is promised for. */
    private static final int CALLS = 320;
    private static int wrong = 0;

    /**
     * The methods, with the kind of each argument: r register, p power, v coefficient, f factor,
     * s shift, b substituted power, m modulus, z residues, e exponent, x point, k kind, i index of a
     * pair, n partitioned integer, l listed integer, d index in a list, t slot, y type, c size,
     * j element's index, w element, g precision, h parameter's exponent, o output's index.
     */
    private static final String[] METHODS = {
        "reset g", "precision", "setCoefficient rpv", "setCoefficient rpv", "setCoefficient rpv",
        "setCoefficient rpv", "setCoefficient rpv", "setCoefficient rpv", "coefficient rp", "order r", "degree r", "add rrrf", "multiply rrr", "divide rrr", "shift rrs",
        "substitute rrb", "product rmze", "firstDifference rr", "valueAt rx", "statistic rk", "statistic rk",
        "registerByRank k", "unitPair h", "setAlpha ir", "setAlpha ir", "setBeta ir", "setBeta ir", "step", "step", "sumSide r", "productSide r", "divide rrr",
        "copyElements tjtjj", "copyElements tjtjj",
        "step", "undoStep", "undoStep", "chainLength", "copyAlpha ri", "copyBeta ri", "sumSide r", "productSide r",
        "countPartitions nmz", "listPartitions l", "filterPartitions", "part dd", "part dd", "append", "append",
        "append", "clearInput", "parseSeries r", "format r", "outputByte o", "allocate tyc", "release t",
        "putElement tjw", "element tj", "copyElements tjtjj", "compareWithArray tr", "snapshot", "restore",
    };

    public static void main(String[] args) {
        for (int run = 0; run < RUNS && wrong < 20; run++) {
            oneRun(run);
        }
        System.out.println(wrong == 0 ? "the class agrees with the model" : wrong + " runs differ from the model");
        if (wrong != 0) {
            System.exit(1);
        }
    }

    private static void oneRun(int number) {
        Random random = new Random(20261118L + number);
        Run run = new Run(number);
        int size = number % 4;
        while (run.said.size() < CALLS) {
            String[] method = METHODS[random.nextInt(METHODS.length)].split(" ");
            if (method[0].equals("append") || random.nextInt(12) == 0) {
                if (!sameText(random, run)) {
                    return;
                }
            } else if (!method[0].matches("reset|release|unitPair") || random.nextInt(5) == 0) {
                // These are called less often, as the state is small after them.
                String kinds = method.length > 1 ? method[1] : "";
                long[] a = new long[kinds.length()];
                for (int i = 0; i < kinds.length(); i++) {
                    a[i] = argument(kinds.charAt(i), random, size);
                }
                // Long chains, now and then, so that steps are forgotten.
                int times = method[0].equals("step") && random.nextInt(6) == 0 ? 12 : 1;
                for (int time = 0; time < times; time++) {
                    if (!run.same(method[0], a)) {
                        return;
                    }
                }
            }
        }
        sameState(run);
    }

    /** Reads all that can be read; each part that changes the state goes back to the run's end. */
    private static void sameState(Run run) {
        run.markEnd();
        boolean same = sameRegisters(run) && sameSlots(run) && sameList(run) && sameOutput(run) && sameChain(run);
        if (same) {
            run.goToEnd();
            same = run.same("restore") && sameRegisters(run);
        }
        if (same) {
            run.goToEnd();
            same = run.same("restore") && sameChain(run);
        }
    }

    private static boolean sameRegisters(Run run) {
        for (int register = 0; register < 6; register++) {
            for (int power = 0; power <= 24; power++) {
                if (!run.same("coefficient", register, power)) {
                    return false;
                }
            }
        }
        return run.same("precision") && run.same("chainLength");
    }

    private static boolean sameSlots(Run run) {
        for (int slot = 0; slot < 4; slot++) {
            for (int i = 0; i <= 40; i++) {
                if (!run.same("element", slot, i)) {
                    return false;
                }
            }
        }
        return true;
    }

    /** The parts of each partition with the place behind its last one, and the place behind the list. */
    private static boolean sameList(Run run) {
        List<List<Integer>> list = run.model.partitions;
        for (int index = 0; index < list.size(); index++) {
            for (int part = 0; part <= list.get(index).size(); part++) {
                if (!run.same("part", index, part)) {
                    return false;
                }
            }
        }
        return run.same("part", list.size(), 0);
    }

    private static boolean sameOutput(Run run) {
        for (int i = 0; i <= run.model.output.length(); i++) {
            if (!run.same("outputByte", i)) {
                return false;
            }
        }
        return true;
    }

    /** The pair, and those before it as far as steps can be undone. */
    private static boolean sameChain(Run run) {
        boolean same = samePair(run);
        for (int undo = 0; undo < 9 && same; undo++) {
            boolean nothing = run.model.now.remembered.isEmpty();
            same = run.same("undoStep") && (nothing || samePair(run));
        }
        return same;
    }

    /** Tells series apart by their values at a point, to stay within the calls of an object. */
    private static boolean samePair(Run run) {
        for (int n = 0; n < 5; n++) {
            if (!run.same("copyAlpha", n, n) || !run.same("valueAt", n, 1000)
                    || !run.same("copyBeta", n, n) || !run.same("valueAt", n, 1000)) {
                return false;
            }
        }
        return true;
    }

    private static boolean sameText(Random random, Run run) {
        String text = randomText(random);
        for (int at = 0; at < text.length(); ) {
            int count = Math.min(1 + random.nextInt(4), text.length() - at);
            int bytes = random.nextInt();
            for (int i = 0; i < count; i++) {
                bytes = bytes << 8 | text.charAt(at + i);
            }
            at += count;
            if (random.nextInt(200) == 0) {
                count = random.nextInt(7) - 1;
            }
            if (random.nextInt(200) == 0) {
                bytes = random.nextInt();
            }
            if (!run.same("append", bytes, count)) {
                return false;
            }
        }
        if (random.nextInt(8) == 0) {
            return true;
        }
        long register = argument('r', random, 0);
        boolean word = text.length() > 2 && Character.isLetter(text.charAt(0)) && Character.isLetter(text.charAt(1));
        return word ? run.same("filterPartitions") : run.same("parseSeries", register);
    }

    private static String randomText(Random random) {
        String[] words = {"distinct", "odd", "gap", "noones", "even", "selfconjugate"};
        StringBuilder text = new StringBuilder();
        if (random.nextInt(5) == 0) {
            text.append(words[random.nextInt(words.length)]);
        } else {
            int terms = 1 + random.nextInt(8);
            for (int i = 0; i < terms; i++) {
                text.append(i == 0 ? (random.nextBoolean() ? "-" : "") : (random.nextBoolean() ? "-" : "+"));
                boolean number = random.nextInt(3) > 0;
                if (number) {
                    text.append(digits(random, 4));
                }
                if (!number || random.nextBoolean()) {
                    text.append('q');
                    if (random.nextInt(4) > 0) {
                        text.append('^').append(digits(random, 2));
                    }
                }
            }
        }
        if (random.nextInt(3) == 0) {
            String signs = "+-q^0123456789q^+-xQ \u0000\u007f";
            int at = random.nextInt(text.length() + 1);
            char sign = signs.charAt(random.nextInt(signs.length()));
            switch (random.nextInt(3)) {
                case 0:
                    text.insert(at, sign);
                    break;
                case 1:
                    text.setLength(at);
                    break;
                default:
                    if (at < text.length()) {
                        text.setCharAt(at, sign);
                    }
            }
        }
        return text.toString();
    }

    private static String digits(Random random, int most) {
        StringBuilder digits = new StringBuilder();
        int count = 1 + random.nextInt(most);
        for (int i = 0; i < count; i++) {
            digits.append((char) ('0' + (most == 2 && i == 0 && count == 2 ? random.nextInt(3) : random.nextInt(10))));
        }
        return digits.toString();
    }

    private static long argument(char kind, Random random, int size) {
        if (kind == 'w') {
            return random.nextLong() >> random.nextInt(64);
        }
        if (random.nextInt(100) == 0) {
            int[] far = {Integer.MIN_VALUE, Integer.MAX_VALUE, -1, -2, 100, 4096, -100000001, 100000001, 1 << 30};
            return far[random.nextInt(far.length)];
        }
        switch (kind) {
            case 'r':
                return around(random, 0, 5);
            case 'p':
                return random.nextInt(3) == 0 ? random.nextInt(25) : random.nextInt(6);
            case 'v':
                return value(random, size);
            case 'f':
                return around(random, -9, 9);
            case 's':
                return around(random, 0, 23);
            case 'b':
                return around(random, 1, 6);
            case 'm':
                return around(random, 1, 12);
            case 'z':
                return random.nextInt(1 << random.nextInt(14));
            case 'e':
                return around(random, -3, 3);
            case 'x':
                return random.nextInt() >> random.nextInt(32);
            case 'k':
                return around(random, 0, 5);
            case 'i':
                return around(random, 0, 4);
            case 'n':
                return around(random, 0, 60);
            case 'l':
                return around(random, 1, 16);
            case 'd':
                return random.nextInt(2) == 0 ? around(random, 0, 4) : around(random, 0, 40);
            case 't':
                return around(random, 0, 3);
            case 'y':
                return around(random, 0, 3);
            case 'c':
                return around(random, 0, 40);
            case 'j':
                return random.nextInt(3) == 0 ? around(random, 0, 40) : around(random, 0, 10);
            case 'g':
                return around(random, 4, 24);
            case 'h':
                return around(random, 0, 1);
            default:
                return around(random, 0, 60);
        }
    }

    private static long around(Random random, int low, int high) {
        if (random.nextInt(40) == 0) {
            return random.nextBoolean() ? low - 1 : high + 1;
        }
        return low + random.nextInt(high - low + 1);
    }

    private static long value(Random random, int size) {
        switch (random.nextInt(5)) {
            case 0:
                return random.nextInt(3) - 1;
            case 1:
                return random.nextInt(200) - 100;
            case 2:
                return size == 0 ? random.nextInt(5) - 2 : random.nextInt(2000001) - 1000000;
            case 3:
                return size < 2 ? random.nextInt(5) - 2 : random.nextInt(200000001) - 100000000;
            default:
                return size < 3 ? 1 : (100000000 - random.nextInt(2)) * (random.nextBoolean() ? 1 : -1);
        }
    }

    /**
     * A calculator and the model, asked the same. A calculator is promised for 512 calls: one that has taken them is
     * followed by a new one, brought to the same state by the calls that can change something.
     */
    private static final class Run {
        static final int PROMISED = 512;
        static final String READING = "precision|coefficient|order|degree|firstDifference|valueAt|statistic"
                + "|registerByRank|chainLength|countPartitions|part|outputByte|element|compareWithArray";

        final int number;
        final Model model = new Model();
        final List<String> said = new ArrayList<>();
        private final List<String> changing = new ArrayList<>();
        private final List<long[]> arguments = new ArrayList<>();
        private BaileyChain real = new BaileyChain();
        private int asked = 0;
        private int changingAtEnd = 0;
        private Kept end = null;

        Run(int number) {
            this.number = number;
        }

        void markEnd() {
            changingAtEnd = changing.size();
            end = model.now.copy();
        }

        /** What is read after the end changes no more of the model than what a snapshot keeps. */
        void goToEnd() {
            changing.subList(changingAtEnd, changing.size()).clear();
            arguments.subList(changingAtEnd, arguments.size()).clear();
            model.now = end.copy();
            makeAgain();
        }

        private void makeAgain() {
            real = new BaileyChain();
            asked = 0;
            for (int i = 0; i < changing.size(); i++) {
                ask(changing.get(i), arguments.get(i));
            }
        }

        private long ask(String method, long[] a) {
            asked++;
            if (asked > PROMISED) {
                throw new IllegalStateException("run " + number + " asks an object more than it is promised for");
            }
            return call(real, method, a);
        }

        boolean same(String method, long... some) {
            long[] a = Arrays.copyOf(some, 5);
            if (asked == PROMISED) {
                makeAgain();
            }
            long want = model.call(method, a);
            long got = ask(method, a);
            said.add(method + Arrays.toString(some) + ": " + want);
            if (!method.matches(READING)) {
                changing.add(method);
                arguments.add(a);
            }
            if (got == want) {
                return true;
            }
            wrong++;
            System.out.println("run " + number + ", call " + said.size() + ": " + method + Arrays.toString(some)
                    + " answered " + got + ", due is " + want);
            for (int i = Math.max(0, said.size() - 12); i < said.size(); i++) {
                System.out.println("    " + said.get(i));
            }
            return false;
        }
    }

    private static long call(BaileyChain x, String method, long[] arguments) {
        int a = (int) arguments[0];
        int b = (int) arguments[1];
        int c = (int) arguments[2];
        int d = (int) arguments[3];
        int e = (int) arguments[4];
        switch (method) {
            case "reset": return x.reset(a);
            case "precision": return x.precision();
            case "setCoefficient": return x.setCoefficient(a, b, c);
            case "coefficient": return x.coefficient(a, b);
            case "order": return x.order(a);
            case "degree": return x.degree(a);
            case "add": return x.add(a, b, c, d);
            case "multiply": return x.multiply(a, b, c);
            case "divide": return x.divide(a, b, c);
            case "shift": return x.shift(a, b, c);
            case "substitute": return x.substitute(a, b, c);
            case "product": return x.product(a, b, c, d);
            case "firstDifference": return x.firstDifference(a, b);
            case "valueAt": return x.valueAt(a, b);
            case "statistic": return x.statistic(a, b);
            case "registerByRank": return x.registerByRank(a);
            case "unitPair": return x.unitPair(a);
            case "setAlpha": return x.setAlpha(a, b);
            case "setBeta": return x.setBeta(a, b);
            case "step": return x.step();
            case "undoStep": return x.undoStep();
            case "chainLength": return x.chainLength();
            case "copyAlpha": return x.copyAlpha(a, b);
            case "copyBeta": return x.copyBeta(a, b);
            case "sumSide": return x.sumSide(a);
            case "productSide": return x.productSide(a);
            case "countPartitions": return x.countPartitions(a, b, c);
            case "listPartitions": return x.listPartitions(a);
            case "filterPartitions": return x.filterPartitions();
            case "part": return x.part(a, b);
            case "append": return x.append(a, b);
            case "clearInput": return x.clearInput();
            case "parseSeries": return x.parseSeries(a);
            case "format": return x.format(a);
            case "outputByte": return x.outputByte(a);
            case "allocate": return x.allocate(a, b, c);
            case "release": return x.release(a);
            case "putElement": return x.putElement(a, b, arguments[2]);
            case "element": return x.element(a, b);
            case "copyElements": return x.copyElements(a, b, c, d, e);
            case "compareWithArray": return x.compareWithArray(a, b);
            case "snapshot": return x.snapshot();
            case "restore": return x.restore();
            default: throw new IllegalStateException(method);
        }
    }

    /** A series of big integers, which is never changed. */
    private static final class Series {
        static final BigInteger LIMIT = BigInteger.valueOf(100000000);
        final BigInteger[] c;

        Series(int n) {
            c = new BigInteger[n];
            Arrays.fill(c, BigInteger.ZERO);
        }

        static Series monomial(int n, int power, long coefficient) {
            Series s = new Series(n);
            if (power < n) {
                s.c[power] = BigInteger.valueOf(coefficient);
            }
            return s;
        }

        static Series one(int n) {
            return monomial(n, 0, 1);
        }

        Series plus(Series other) {
            Series s = new Series(c.length);
            for (int i = 0; i < c.length; i++) {
                s.c[i] = c[i].add(other.c[i]);
            }
            return s;
        }

        Series times(Series other) {
            Series s = new Series(c.length);
            for (int i = 0; i < c.length; i++) {
                for (int j = 0; i + j < c.length; j++) {
                    s.c[i + j] = s.c[i + j].add(c[i].multiply(other.c[j]));
                }
            }
            return s;
        }

        Series times(long factor) {
            return times(monomial(c.length, 0, factor));
        }

        Series shifted(int power) {
            return times(monomial(c.length, power, 1));
        }

        /** The inverse of e (1 - y), with e = 1 or -1: e times the sum of the powers of y. */
        Series inverse() {
            int n = c.length;
            long e = c[0].longValue();
            Series y = one(n).plus(times(-e));
            Series sum = one(n);
            for (int i = 1; i < n; i++) {
                sum = one(n).plus(sum.times(y));
            }
            return sum.times(e);
        }

        boolean overflows() {
            for (BigInteger value : c) {
                if (value.abs().compareTo(LIMIT) > 0) {
                    return true;
                }
            }
            return false;
        }

        boolean isEqual(Series other) {
            return Arrays.equals(c, other.c);
        }

        int nonzero() {
            int count = 0;
            for (BigInteger value : c) {
                count += value.signum() != 0 ? 1 : 0;
            }
            return count;
        }

        int low() {
            for (int i = 0; i < c.length; i++) {
                if (c[i].signum() != 0) {
                    return i;
                }
            }
            return -7;
        }

        int high() {
            for (int i = c.length - 1; i >= 0; i--) {
                if (c[i].signum() != 0) {
                    return i;
                }
            }
            return -7;
        }
    }

    private static final class ModelPair {
        final int r;
        final Series[] alpha = new Series[5];
        final Series[] beta = new Series[5];

        ModelPair(int r) {
            this.r = r;
        }

        /** (q^first)count */
        static Series symbol(int n, int first, int count) {
            Series s = Series.one(n);
            for (int i = 0; i < count; i++) {
                s = s.times(Series.one(n).plus(Series.monomial(n, first + i, -1)));
            }
            return s;
        }

        static ModelPair fromAlpha(int r, Series[] alpha) {
            ModelPair p = new ModelPair(r);
            int size = alpha[0].c.length;
            for (int n = 0; n < 5; n++) {
                p.alpha[n] = alpha[n];
                p.beta[n] = new Series(size);
                for (int j = 0; j <= n; j++) {
                    Series bottom = symbol(size, 1, n - j).times(symbol(size, r + 1, n + j));
                    p.beta[n] = p.beta[n].plus(alpha[j].times(bottom.inverse()));
                }
            }
            return p;
        }

        /** By Bailey's inversion, a closed formula. */
        static ModelPair fromBeta(int r, Series[] beta) {
            ModelPair p = new ModelPair(r);
            int size = beta[0].c.length;
            p.alpha[0] = beta[0];
            p.beta[0] = beta[0];
            for (int n = 1; n < 5; n++) {
                p.beta[n] = beta[n];
                Series sum = new Series(size);
                for (int j = 0; j <= n; j++) {
                    int d = n - j;
                    Series top = symbol(size, r + 1, n + j - 1).shifted(d * (d - 1) / 2).times(d % 2 == 0 ? 1 : -1);
                    sum = sum.plus(beta[j].times(top).times(symbol(size, 1, d).inverse()));
                }
                p.alpha[n] = sum.times(Series.one(size).plus(Series.monomial(size, r + 2 * n, -1)));
            }
            return p;
        }

        /** Beta is derived from the new alpha: Bailey's lemma says that the step does the same. */
        ModelPair next() {
            Series[] shifted = new Series[5];
            for (int n = 0; n < 5; n++) {
                shifted[n] = alpha[n].shifted(r * n + n * n);
            }
            return fromAlpha(r, shifted);
        }

        boolean overflows() {
            for (int n = 0; n < 5; n++) {
                if (alpha[n].overflows() || beta[n].overflows()) {
                    return true;
                }
            }
            return false;
        }
    }

    /** What a snapshot keeps; series and pairs are never changed, so copies are shallow. */
    private static final class Kept {
        int n = 12;
        Series[] registers = new Series[6];
        ModelPair pair;
        int length = 0;
        Deque<ModelPair> remembered = new ArrayDeque<>();

        Kept copy() {
            Kept k = new Kept();
            k.n = n;
            k.registers = registers.clone();
            k.pair = pair;
            k.length = length;
            k.remembered = new ArrayDeque<>(remembered);
            return k;
        }
    }

    private static final class Model {
        static final Pattern TERM = Pattern.compile("([+-]?)([0-9]{0,4})(q?)\\^?([0-9]{0,2})");
        static final String ONE_TERM = "(?:[0-9]{1,4}(?:q(?:\\^[0-9]{1,2})?)?|q(?:\\^[0-9]{1,2})?)";
        static final Pattern WHOLE = Pattern.compile("-?" + ONE_TERM + "(?:[+-]" + ONE_TERM + ")*");

        Kept now = new Kept();
        Kept snapshot = null;
        List<List<Integer>> partitions = new ArrayList<>();
        String input = "";
        String output = "";
        long[][] arrays = new long[4][];
        int[] types = new int[4];

        Model() {
            reset(12);
        }

        long call(String method, long[] a) {
            String registers = "";
            switch (method) {
                case "setCoefficient": case "order": case "degree": case "product": case "valueAt": case "statistic":
                case "copyAlpha": case "copyBeta": case "sumSide": case "productSide": case "parseSeries": case "format":
                    registers = "0";
                    break;
                case "setAlpha": case "setBeta":
                    registers = "1";
                    break;
                case "add": case "multiply": case "divide":
                    registers = "012";
                    break;
                case "shift": case "substitute": case "firstDifference":
                    registers = "01";
                    break;
                default:
            }
            for (int i = 0; i < registers.length(); i++) {
                if (outside(a[registers.charAt(i) - '0'], 0, 5)) {
                    return -2;
                }
            }
            if (method.equals("filterPartitions") || method.equals("parseSeries")) {
                String text = input;
                input = "";
                return method.equals("parseSeries") ? parse((int) a[0], text) : filter(text);
            }
            return answer(method, a);
        }

        private static boolean outside(long value, long low, long high) {
            return value < low || value > high;
        }

        private Series at(long register) {
            return now.registers[(int) register];
        }

        private long store(long target, Series s) {
            if (s.overflows()) {
                return -3;
            }
            now.registers[(int) target] = s;
            return s.nonzero();
        }

        private long answer(String method, long[] a) {
            switch (method) {
                case "reset": return outside(a[0], 4, 24) ? -1 : reset((int) a[0]);
                case "precision": return now.n;
                case "setCoefficient": return setCoefficient(a);
                case "coefficient":
                    return outside(a[0], 0, 5) || outside(a[1], 0, now.n - 1) ? Long.MIN_VALUE
                            : at(a[0]).c[(int) a[1]].longValueExact();
                case "order": return at(a[0]).low();
                case "degree": return at(a[0]).high();
                case "add": return outside(a[3], -9, 9) ? -1 : store(a[0], at(a[1]).plus(at(a[2]).times(a[3])));
                case "multiply": return store(a[0], at(a[1]).times(at(a[2])));
                case "divide":
                    return at(a[2]).c[0].abs().equals(BigInteger.ONE) ? store(a[0], at(a[1]).times(at(a[2]).inverse())) : -4;
                case "shift": return outside(a[2], 0, 23) ? -1 : store(a[0], at(a[1]).shifted((int) a[2]));
                case "substitute": return outside(a[2], 1, 6) ? -1 : store(a[0], substituted(at(a[1]), (int) a[2]));
                case "product": return product(a);
                case "firstDifference": return at(a[0]).plus(at(a[1]).times(-1)).low();
                case "valueAt": return valueAt(at(a[0]), BigInteger.valueOf((int) a[1]));
                case "statistic": return statistic(at(a[0]).c, a[1]);
                case "registerByRank": return rank(a[0]);
                case "unitPair": return outside(a[0], 0, 1) ? -1 : unit((int) a[0]);
                case "setAlpha": return setPair(a, true);
                case "setBeta": return setPair(a, false);
                case "step": return step();
                case "undoStep": return undo();
                case "chainLength": return now.length;
                case "copyAlpha": return outside(a[1], 0, 4) ? -1 : store(a[0], now.pair.alpha[(int) a[1]]);
                case "copyBeta": return outside(a[1], 0, 4) ? -1 : store(a[0], now.pair.beta[(int) a[1]]);
                case "sumSide": return store(a[0], stepSum(now.pair.beta));
                case "productSide":
                    return store(a[0], stepSum(now.pair.alpha)
                            .times(ModelPair.symbol(now.n, now.pair.r + 1, 30).inverse()));
                case "countPartitions": return count(a);
                case "listPartitions": return outside(a[0], 1, 16) ? -1 : list((int) a[0]);
                case "part": return part(a);
                case "append": return append((int) a[0], (int) a[1]);
                case "clearInput": return clear();
                case "format": return format(at(a[0]));
                case "outputByte": return outside(a[0], 0, output.length() - 1) ? -7 : output.charAt((int) a[0]);
                case "snapshot": snapshot = now.copy(); return now.n;
                case "restore": return restore();
                default: return arrayAnswer(method, a);
            }
        }

        private long reset(int n) {
            int previous = now.n;
            now = new Kept();
            now.n = n;
            for (int i = 0; i < 6; i++) {
                now.registers[i] = new Series(n);
            }
            unit(0);
            return previous;
        }

        private long setCoefficient(long[] a) {
            if (outside(a[1], 0, now.n - 1)) {
                return -1;
            }
            if (outside(a[2], -100000000, 100000000)) {
                return -3;
            }
            Series s = new Series(now.n).plus(at(a[0]));
            s.c[(int) a[1]] = BigInteger.valueOf(a[2]);
            boolean same = s.isEqual(at(a[0]));
            now.registers[(int) a[0]] = s;
            return same ? 0 : 1;
        }

        private static Series substituted(Series s, int power) {
            Series t = new Series(s.c.length);
            for (int i = 0; i < s.c.length; i += power) {
                t.c[i] = s.c[i / power];
            }
            return t;
        }

        private static boolean badSet(long modulus, long residues) {
            return outside(modulus, 1, 12) || outside(residues, 0, (long) Math.pow(2, modulus) - 1);
        }

        private long product(long[] a) {
            if (badSet(a[1], a[2]) || outside(a[3], -3, 3)) {
                return -1;
            }
            Series s = Series.one(now.n);
            for (int i = 1; i < now.n; i++) {
                if ((a[2] / (1L << i % a[1])) % 2 == 1) {
                    s = s.times(Series.one(now.n).plus(Series.monomial(now.n, i, -1)));
                }
            }
            Series power = Series.one(now.n);
            for (int i = 0; i < Math.abs(a[3]); i++) {
                power = power.times(a[3] > 0 ? s : s.inverse());
            }
            return store(a[0], power);
        }

        private static long valueAt(Series s, BigInteger x) {
            BigInteger value = BigInteger.ZERO;
            for (int i = 0; i < s.c.length; i++) {
                value = value.add(s.c[i].multiply(x.pow(i)));
            }
            return value.mod(BigInteger.valueOf(1000003)).longValueExact();
        }

        private static long statistic(BigInteger[] c, long kind) {
            if (outside(kind, 0, 4)) {
                return -1;
            }
            List<BigInteger> nonzero = new ArrayList<>();
            List<BigInteger> lower = new ArrayList<>();
            long negative = 0;
            long records = 0;
            long changes = 0;
            BigInteger largest = BigInteger.ZERO;
            for (BigInteger value : c) {
                if (lower.isEmpty() || value.compareTo(Collections.max(lower)) > 0) {
                    records++;
                }
                lower.add(value);
                largest = largest.max(value.abs());
                negative += value.signum() < 0 ? 1 : 0;
                if (value.signum() != 0) {
                    nonzero.add(value);
                }
            }
            for (int i = 1; i < nonzero.size(); i++) {
                changes += nonzero.get(i).signum() != nonzero.get(i - 1).signum() ? 1 : 0;
            }
            return new long[] {nonzero.size(), negative, changes, largest.longValueExact(), records}[(int) kind];
        }

        private long rank(long rank) {
            if (outside(rank, 0, 5)) {
                return -1;
            }
            List<int[]> keys = new ArrayList<>();
            for (int i = 0; i < 6; i++) {
                int low = at(i).low();
                keys.add(new int[] {low == -7 ? 99 : low, -at(i).high(), i});
            }
            keys.sort(Arrays::compare);
            return keys.get((int) rank)[2];
        }

        private long unit(int r) {
            Series[] beta = new Series[5];
            for (int i = 0; i < 5; i++) {
                beta[i] = Series.monomial(now.n, 0, i == 0 ? 1 : 0);
            }
            newPair(ModelPair.fromBeta(r, beta));
            return 0;
        }

        private void newPair(ModelPair pair) {
            now.pair = pair;
            now.length = 0;
            now.remembered.clear();
        }

        private long setPair(long[] a, boolean isAlpha) {
            if (outside(a[0], 0, 4)) {
                return -1;
            }
            Series[] rows = (isAlpha ? now.pair.alpha : now.pair.beta).clone();
            boolean same = rows[(int) a[0]].isEqual(at(a[1]));
            rows[(int) a[0]] = at(a[1]);
            ModelPair pair = isAlpha ? ModelPair.fromAlpha(now.pair.r, rows) : ModelPair.fromBeta(now.pair.r, rows);
            if (pair.overflows()) {
                return -3;
            }
            newPair(pair);
            return same ? 0 : 1;
        }

        private long step() {
            ModelPair next = now.pair.next();
            if (next.overflows()) {
                return -3;
            }
            now.remembered.addLast(now.pair);
            if (now.remembered.size() > 8) {
                now.remembered.removeFirst();
            }
            now.pair = next;
            return ++now.length;
        }

        private long undo() {
            if (now.remembered.isEmpty()) {
                return -5;
            }
            now.pair = now.remembered.removeLast();
            return --now.length;
        }

        private Series stepSum(Series[] rows) {
            Series sum = new Series(now.n);
            for (int n = 0; n < 5; n++) {
                sum = sum.plus(rows[n].shifted(n * (n + now.pair.r)));
            }
            return sum;
        }

        private static long count(long[] a) {
            if (outside(a[0], 0, 60) || badSet(a[1], a[2])) {
                return Long.MIN_VALUE;
            }
            Series s = Series.one((int) a[0] + 1);
            for (int i = 1; i <= a[0]; i++) {
                if ((a[2] >> i % a[1]) % 2 == 1) {
                    Series multiples = new Series((int) a[0] + 1);
                    for (int k = 0; k <= a[0]; k += i) {
                        multiples.c[k] = BigInteger.ONE;
                    }
                    s = s.times(multiples);
                }
            }
            return s.c[(int) a[0]].longValueExact();
        }

        private long list(int n) {
            partitions = new ArrayList<>();
            collect(n, n, new ArrayList<>());
            return partitions.size();
        }

        private void collect(int rest, int largest, List<Integer> parts) {
            if (rest == 0) {
                partitions.add(new ArrayList<>(parts));
            }
            for (int p = Math.min(rest, largest); p >= 1; p--) {
                parts.add(p);
                collect(rest - p, p, parts);
                parts.remove(parts.size() - 1);
            }
        }

        private long filter(String word) {
            if (!List.of("distinct", "odd", "gap", "noones", "even", "selfconjugate").contains(word)) {
                return -1;
            }
            partitions.removeIf(parts -> !passes(parts, word));
            return partitions.size();
        }

        private static boolean passes(List<Integer> parts, String word) {
            switch (word) {
                case "distinct": return new HashSet<>(parts).size() == parts.size();
                case "odd": return parts.stream().allMatch(p -> p % 2 == 1);
                case "noones": return !parts.contains(1);
                case "even": return parts.size() % 2 == 0;
                case "gap":
                    for (int i = 1; i < parts.size(); i++) {
                        if (parts.get(i - 1) < parts.get(i) + 2) {
                            return false;
                        }
                    }
                    return true;
                default:
                    List<Integer> conjugate = new ArrayList<>();
                    for (int i = 1; i <= parts.get(0); i++) {
                        int least = i;
                        conjugate.add((int) parts.stream().filter(p -> p >= least).count());
                    }
                    return conjugate.equals(parts);
            }
        }

        private long part(long[] a) {
            if (a[0] < 0 || a[1] < 0) {
                return -1;
            }
            if (a[0] >= partitions.size() || a[1] >= partitions.get((int) a[0]).size()) {
                return -7;
            }
            return partitions.get((int) a[0]).get((int) a[1]);
        }

        private long append(int bytes, int count) {
            if (outside(count, 1, 4)) {
                return -1;
            }
            StringBuilder text = new StringBuilder();
            for (int i = 4 - count; i < 4; i++) {
                int value = java.nio.ByteBuffer.allocate(4).putInt(bytes).get(i);
                if (value < 0) {
                    return -1;
                }
                text.append((char) value);
            }
            if (input.length() + count > 60) {
                return -6;
            }
            input += text;
            return input.length();
        }

        private long clear() {
            int length = input.length();
            input = "";
            return length;
        }

        private long parse(int register, String text) {
            if (!WHOLE.matcher(text).matches()) {
                int good = 0;
                while (good < text.length() && canGoOn(text.substring(0, good + 1))) {
                    good++;
                }
                return -1000 - good;
            }
            Series s = new Series(now.n);
            Matcher term = TERM.matcher(text);
            for (int at = 0; at < text.length() && term.find(at); at = term.end()) {
                long number = term.group(2).isEmpty() ? 1 : Long.parseLong(term.group(2));
                int q = term.group(3).isEmpty() ? 0 : 1;
                int power = term.group(4).isEmpty() ? q : Integer.parseInt(term.group(4));
                s = s.plus(Series.monomial(now.n, power, term.group(1).equals("-") ? -number : number));
            }
            return store(register, s);
        }

        private static boolean canGoOn(String beginning) {
            Matcher matcher = WHOLE.matcher(beginning);
            return matcher.matches() || matcher.hitEnd();
        }

        private long format(Series s) {
            StringBuilder text = new StringBuilder();
            for (int k = 0; k < s.c.length; k++) {
                if (s.c[k].signum() != 0) {
                    text.append('+').append(s.c[k]).append("q^").append(k).append(' ');
                }
            }
            output = text.toString().replace("+-", "-").replaceAll("^\\+", "").replace("q^0 ", " ")
                    .replace("q^1 ", "q ").replaceAll("(^|[+-])1q", "$1q").replace(" ", "");
            if (output.isEmpty()) {
                output = "0";
            }
            return output.length();
        }

        private long restore() {
            if (snapshot == null) {
                return -5;
            }
            now = snapshot.copy();
            return now.n;
        }

        private long arrayAnswer(String method, long[] a) {
            boolean noSlot = outside(a[0], 0, 3);
            long[] array = noSlot ? null : arrays[(int) a[0]];
            boolean noElement = array == null || outside(a[1], 0, array.length - 1);
            switch (method) {
                case "allocate":
                    if (noSlot || outside(a[1], 0, 3) || a[2] > 40) {
                        return -1;
                    }
                    if (a[2] < 0) {
                        return -14;
                    }
                    arrays[(int) a[0]] = new long[(int) a[2]];
                    types[(int) a[0]] = (int) a[1];
                    return a[2];
                case "release":
                    if (!noSlot) {
                        arrays[(int) a[0]] = null;
                    }
                    return noSlot ? -1 : array == null ? 0 : 1;
                case "putElement":
                    if (noSlot || array == null || noElement) {
                        return noSlot ? -1 : array == null ? -11 : -13;
                    }
                    int spare = 64 - (8 << types[(int) a[0]]);
                    array[(int) a[1]] = a[2] << spare >> spare;
                    return 1;
                case "element":
                    return noElement ? Long.MIN_VALUE : array[(int) a[1]];
                case "copyElements":
                    return copy(a);
                case "compareWithArray":
                    return compare(a, noSlot, array);
                default:
                    throw new IllegalStateException(method);
            }
        }

        private long copy(long[] a) {
            if (outside(a[0], 0, 3) || outside(a[2], 0, 3)) {
                return -1;
            }
            long[] from = arrays[(int) a[0]];
            long[] to = arrays[(int) a[2]];
            if (from == null || to == null) {
                return -11;
            }
            if (types[(int) a[0]] != types[(int) a[2]]) {
                return -12;
            }
            if (a[1] < 0 || a[3] < 0 || a[4] < 0 || a[1] + a[4] > from.length || a[3] + a[4] > to.length) {
                return -13;
            }
            long[] copied = from.clone();
            for (int i = 0; i < a[4]; i++) {
                to[(int) a[3] + i] = copied[(int) a[1] + i];
            }
            return a[4];
        }

        private long compare(long[] a, boolean noSlot, long[] array) {
            if (noSlot || outside(a[1], 0, 5) || array == null) {
                return noSlot ? -1 : outside(a[1], 0, 5) ? -2 : -11;
            }
            long[] row = Arrays.stream(at(a[1]).c).mapToLong(BigInteger::longValueExact).toArray();
            int difference = Arrays.mismatch(array, row);
            return difference < 0 ? -7 : difference;
        }
    }
}
