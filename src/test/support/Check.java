import java.util.HashSet;
import java.util.Set;
import java.util.function.IntToLongFunction;
import java.util.function.ToLongBiFunction;

/**
 * What the boundary tests share: telling wrong answers, and small ways to drive a calculator. A test extends it, as
 * names of a class without a package can't be imported.
 */
abstract class Check {
    static final int LOWEST = Integer.MIN_VALUE;
    static final int HIGHEST = Integer.MAX_VALUE;
    static final int LIMIT = 100000000;
    static final int BAD = BaileyChain.BAD_ARGUMENT;
    static final int NO_REGISTER = BaileyChain.NO_SUCH_REGISTER;
    static final int OVERFLOW = BaileyChain.OVERFLOW;
    static final int NONE = BaileyChain.NONE;
    static final long NO_VALUE = BaileyChain.NO_VALUE;

    private static int wrong = 0;
    private static final Set<String> SENTENCES = new HashSet<>();
    private static String sentence = "";

    /** Names the sentence of the document that the next checks are about. */
    static void about(String place, String text) {
        sentence = place + ": " + text;
        SENTENCES.add(sentence);
    }

    static void due(String call, long got, long want) {
        if (got != want) {
            tell(call + " answered " + got + ", due is " + want);
        }
    }

    static void due(String what, String got, String want) {
        if (!got.equals(want)) {
            tell(what + " is " + got + ", due is " + want);
        }
    }

    private static void tell(String fault) {
        wrong++;
        System.out.println("[" + sentence + "] " + fault);
    }

    static void end() {
        System.out.println(SENTENCES.size() + " sentences tested, " + wrong + " answers not as due");
        if (wrong != 0) {
            System.exit(1);
        }
    }

    /** The two ends of a range, and on both sides the first argument that isn't in it and the last of all. */
    static void ends(String call, int lowest, long atLowest, int highest, long atHighest, long refusal,
            IntToLongFunction answer) {
        due(call + " with " + lowest, answer.applyAsLong(lowest), atLowest);
        due(call + " with " + highest, answer.applyAsLong(highest), atHighest);
        due(call + " with " + (lowest - 1), answer.applyAsLong(lowest - 1), refusal);
        due(call + " with " + (highest + 1), answer.applyAsLong(highest + 1), refusal);
        due(call + " with the lowest integer", answer.applyAsLong(LOWEST), refusal);
        due(call + " with the highest integer", answer.applyAsLong(HIGHEST), refusal);
    }

    /** The range of a register's number, on the calculator that filled() makes. */
    static void registers(String call, long atZero, long atFive, ToLongBiFunction<BaileyChain, Integer> answer) {
        long refusal = BaileyChain.NO_SUCH_REGISTER;
        ends(call, 0, atZero, 5, atFive, refusal, register -> answer.applyAsLong(filled(), register));
    }

    static BaileyChain at(int precision) {
        BaileyChain x = new BaileyChain();
        x.reset(precision);
        return x;
    }

    /** Precision 12, and register i holds (i + 1) q^i + q^(i + 2). */
    static BaileyChain filled() {
        BaileyChain x = new BaileyChain();
        for (int i = 0; i < 6; i++) {
            x.setCoefficient(i, i, i + 1);
            x.setCoefficient(i, i + 2, 1);
        }
        return x;
    }

    /** An answer together with what the target then holds: its value at 2 is the last six digits. */
    static long kept(BaileyChain x, int answer, int target) {
        return answer < 0 ? answer : answer * 10000000L + x.valueAt(target, 2);
    }

    static long terms(int count, long valueAtTwo) {
        return count * 10000000L + Math.floorMod(valueAtTwo, 1000003L);
    }

    static void type(BaileyChain x, String text) {
        for (int i = 0; i < text.length(); i++) {
            x.append(text.charAt(i), 1);
        }
    }

    static int parse(BaileyChain x, int register, String text) {
        type(x, text);
        return x.parseSeries(register);
    }

    static int filter(BaileyChain x, String word) {
        type(x, word);
        return x.filterPartitions();
    }

    /** Sets a whole register, also to coefficients that no text of the grammar has. */
    static void set(BaileyChain x, int register, int... coefficients) {
        for (int k = 0; k < x.precision(); k++) {
            x.setCoefficient(register, k, k < coefficients.length ? coefficients[k] : 0);
        }
    }

    static String show(BaileyChain x, int register) {
        x.format(register);
        return output(x);
    }

    static String output(BaileyChain x) {
        StringBuilder text = new StringBuilder();
        int value = x.outputByte(0);
        for (int i = 1; value >= 0; i++) {
            text.append((char) value);
            value = x.outputByte(i);
        }
        return text.toString();
    }

    static String alpha(BaileyChain x, int n) {
        x.copyAlpha(5, n);
        return show(x, 5);
    }

    static String beta(BaileyChain x, int n) {
        x.copyBeta(5, n);
        return show(x, 5);
    }

    static String partition(BaileyChain x, int index) {
        StringBuilder text = new StringBuilder();
        int part = x.part(index, 0);
        for (int i = 1; part > 0; i++) {
            text.append(i == 1 ? "" : " ").append(part);
            part = x.part(index, i);
        }
        return text.toString();
    }

    static String elements(BaileyChain x, int slot) {
        StringBuilder text = new StringBuilder();
        long value = x.element(slot, 0);
        for (int i = 1; value != NO_VALUE; i++) {
            text.append(i == 1 ? "" : " ").append(value);
            value = x.element(slot, i);
        }
        return text.toString();
    }
}
