import java.util.ArrayList;
import java.util.List;
import java.util.function.Consumer;
import java.util.function.ToLongFunction;

/** The sentences of "Description" and "Details" that name a boundary case, and what an accepted call leaves alone. */
public final class DetailTests extends Check {
    public static void main(String[] args) {
        newCalculator();
        discarded();
        equalRegisters();
        definingRelation();
        unitPair();
        rememberedSteps();
        chainLength();
        stepsBeforeASetting();
        otherSeriesStay();
        calls();
        texts();
        words();
        appended();
        statistics();
        ranks();
        lists();
        outputs();
        snapshots();
        restoredPrecision();
        countsAgain();
        questionsChangeNothing();
        whatCallsLeaveAlone();
        end();
    }

    private static void newCalculator() {
        about("Promise 1", "Creates a calculator with precision 12");
        due("precision", new BaileyChain().precision(), 12);
        about("Description", "all registers are 0");
        for (int register = 0; register < 6; register++) {
            due("order", new BaileyChain().order(register), NONE);
            due("degree", new BaileyChain().degree(register), NONE);
        }
        about("Description", "the Bailey pair is the unit pair with r = 0");
        BaileyChain x = new BaileyChain();
        due("the pair", wholePair(x), wholePair(unit(12, 0)));
        due("step", x.step(), 1);
        due("alpha(1) after a step", alpha(x, 1), "-q-q^2");
        about("Description", "the partition list, the input buffer and the output buffer are empty");
        due("part", new BaileyChain().part(0, 0), NONE);
        due("clearInput", new BaileyChain().clearInput(), 0);
        due("parseSeries", new BaileyChain().parseSeries(0), -1000);
        due("filterPartitions", new BaileyChain().filterPartitions(), BAD);
        due("outputByte", new BaileyChain().outputByte(0), NONE);
        about("Description", "there is no snapshot");
        due("restore", new BaileyChain().restore(), -5);
        about("Arrays", "All slots are initially empty");
        for (int slot = 0; slot < 4; slot++) {
            due("release", new BaileyChain().release(slot), 0);
            due("putElement", new BaileyChain().putElement(slot, 0, 0), -11);
            due("element", new BaileyChain().element(slot, 0), NO_VALUE);
            due("compareWithArray", new BaileyChain().compareWithArray(slot, 0), -11);
        }
        about("Description", "each object is by itself");
        BaileyChain used = unit(24, 1);
        used.setCoefficient(0, 0, 1);
        used.listPartitions(3);
        used.append('q', 1);
        used.format(0);
        used.allocate(0, 0, 1);
        used.snapshot();
        BaileyChain other = new BaileyChain();
        due("precision", other.precision(), 12);
        due("order", other.order(0), NONE);
        due("restore", other.restore(), -5);
        due("part", other.part(0, 0), NONE);
        due("outputByte", other.outputByte(0), NONE);
        due("element", other.element(0, 0), NO_VALUE);
        due("clearInput", other.clearInput(), 0);
    }

    private static BaileyChain unit(int precision, int r) {
        BaileyChain x = at(precision);
        x.unitPair(r);
        return x;
    }

    private static String wholePair(BaileyChain x) {
        StringBuilder text = new StringBuilder();
        for (int n = 0; n < 5; n++) {
            text.append(Check.kept(x, x.copyAlpha(5, n), 5)).append(' ');
            text.append(x.valueAt(5, 999)).append(' ');
            text.append(Check.kept(x, x.copyBeta(5, n), 5)).append(' ');
            text.append(x.valueAt(5, 999)).append(' ');
        }
        return text.toString();
    }

    private static void discarded() {
        about("Series", "Every operation on series discards the coefficients at the power N and above");
        for (int n = 4; n <= 24; n++) {
            BaileyChain x = at(n);
            x.setCoefficient(0, n - 2, 3);
            x.setCoefficient(1, 1, 1);
            due("multiply to N - 1", x.multiply(2, 0, 1), 1);
            due("its power", x.order(2), n - 1);
            due("multiply to N", x.multiply(3, 2, 1), 0);
            due("shift to N - 1", x.shift(2, 0, 1), 1);
            due("its power", x.order(2), n - 1);
            due("shift to N", x.shift(2, 0, 2), 0);
            for (int power = 2; power <= 6; power++) {
                set(x, 4);
                for (int k = 0; k < n; k++) {
                    x.setCoefficient(4, k, k + 1);
                }
                due("substitute", x.substitute(4, 4, power), (n - 1) / power + 1);
                due("its degree", x.degree(4), (n - 1) / power * power);
            }
        }
        about("Series", "discards the coefficients at the power N and above: the pair");
        int[][] powers = {{0}, {0, 1}, {1, 3}, {3, 6}, {6, 10}};
        for (int n = 4; n <= 24; n++) {
            for (int index = 0; index < 5; index++) {
                int terms = 0;
                for (int power : powers[index]) {
                    terms += power < n ? 1 : 0;
                }
                due("alpha(" + index + ") at N = " + n, unit(n, 0).copyAlpha(0, index), terms);
            }
        }
        about("Series", "discards the coefficients at the power N and above: step and sides");
        for (int r = 0; r < 2; r++) {
            for (int index = 0; index < 5; index++) {
                for (int n = 4; n <= 24; n++) {
                    sideOf(n, r, index);
                }
            }
        }
    }

    /** With beta(n) = 1 as the only series beta, both sides are q to the power r n + n n. */
    private static void sideOf(int n, int r, int index) {
        BaileyChain x = unit(n, r);
        x.setBeta(0, 0);
        x.setCoefficient(1, 0, 1);
        x.setBeta(index, 1);
        int power = r * index + index * index;
        String want = power >= n ? "0" : power == 0 ? "1" : power == 1 ? "q" : "q^" + power;
        x.sumSide(2);
        due("sumSide at N = " + n, show(x, 2), want);
        x.productSide(2);
        due("productSide at N = " + n, show(x, 2), want);
        x.step();
        due("beta(n) after a step at N = " + n, beta(x, index), want);
    }

    private static void equalRegisters() {
        about("Registers", "The registers that are passed to one call may be equal; the operands are read first");
        for (int target = 0; target < 3; target++) {
            for (int left = 0; left < 3; left++) {
                for (int right = 0; right < 3; right++) {
                    for (int call = 0; call < 3; call++) {
                        BaileyChain x = three();
                        BaileyChain apart = three();
                        long got = twoOperands(x, call, target, left, right);
                        due("call " + call, got, twoOperands(apart, call, 5, left, right));
                        due("call " + call + ", the result", show(x, target), show(apart, 5));
                    }
                }
                for (int power = 1; power <= 6; power++) {
                    oneOperand(target, left, power);
                }
            }
        }
        due("firstDifference of one register", three().firstDifference(1, 1), NONE);
    }

    private static void oneOperand(int target, int source, int power) {
        BaileyChain x = three();
        BaileyChain apart = three();
        due("shift", x.shift(target, source, power), apart.shift(5, source, power));
        due("shift, the result", show(x, target), show(apart, 5));
        BaileyChain y = three();
        due("substitute", y.substitute(target, source, power), apart.substitute(5, source, power));
        due("substitute, the result", show(y, target), show(apart, 5));
    }

    private static BaileyChain three() {
        BaileyChain x = new BaileyChain();
        set(x, 0, 1, -2, 0, 5, 1, 0, 0, 7, 0, 0, 0, 3);
        set(x, 1, -1, 1, 4, 0, 0, 2, 0, 0, -3);
        set(x, 2, 1, 1, 1, 1);
        return x;
    }

    private static long twoOperands(BaileyChain x, int call, int target, int left, int right) {
        switch (call) {
            case 0:
                return x.add(target, left, right, -3);
            case 1:
                return x.multiply(target, left, right);
            default:
                return x.divide(target, left, right);
        }
    }

    private static void definingRelation() {
        about("q-Pochhammer symbols", "(x)0 is 1: beta(0) is alpha(0)");
        for (int r = 0; r < 2; r++) {
            BaileyChain x = unit(24, r);
            set(x, 0, 3, -1, 0, 7);
            x.setCoefficient(0, 23, 99);
            due("setAlpha", x.setAlpha(0, 0), 1);
            x.copyBeta(1, 0);
            due("beta(0)", x.firstDifference(0, 1), NONE);
            x.setCoefficient(0, 1, 5);
            due("setBeta", x.setBeta(0, 0), 1);
            x.copyAlpha(1, 0);
            due("alpha(0)", x.firstDifference(0, 1), NONE);
        }
        about("Bailey pairs", "They always satisfy the defining relation, up to n = 4");
        for (int r = 0; r < 2; r++) {
            for (int n = 4; n <= 24; n += 5) {
                relationHolds("the unit pair", n, r, x -> { });
                Consumer<BaileyChain> setting = x -> {
                    set(x, 0, 2, 0, -1, 1);
                    x.setAlpha(3, 0);
                };
                relationHolds("after setAlpha", n, r, setting);
                setting = setting.andThen(x -> x.setBeta(1, 0));
                relationHolds("after setBeta", n, r, setting);
                setting = setting.andThen(BaileyChain::step);
                relationHolds("after a step", n, r, setting);
                relationHolds("after an undone step", n, r, setting.andThen(BaileyChain::undoStep));
            }
        }
    }

    /** Checks each series beta against the relation, with registers 1 to 3 as room. */
    private static void relationHolds(String when, int precision, int r, Consumer<BaileyChain> setting) {
        for (int n = 0; n < 5; n++) {
            BaileyChain x = unit(precision, r);
            setting.accept(x);
            for (int j = 0; j <= n; j++) {
                x.copyAlpha(2, j);
                divideByFactors(x, 1, n - j);
                divideByFactors(x, r + 1, n + j);
                x.add(1, 1, 2, 1);
            }
            x.copyBeta(2, n);
            due(when + ", r = " + r + ", beta(" + n + ")", x.firstDifference(1, 2), NONE);
        }
    }

    private static void divideByFactors(BaileyChain x, int first, int count) {
        for (int i = first; i < first + count && i < x.precision(); i++) {
            x.add(3, 3, 3, -1);
            x.setCoefficient(3, 0, 1);
            x.setCoefficient(3, i, -1);
            x.divide(2, 2, 3);
        }
    }

    private static void unitPair() {
        about("Unit pair", "The unit pair has beta(0) = 1 and beta(n) = 0 for n from 1 to 4");
        for (int r = 0; r < 2; r++) {
            for (int n = 4; n <= 24; n++) {
                BaileyChain x = unit(n, r);
                due("beta(0)", beta(x, 0), "1");
                for (int index = 1; index < 5; index++) {
                    due("beta", beta(x, index), "0");
                }
            }
        }
        about("Promise 18", "Sets the pair to the unit pair; the chain length becomes 0, at the same r too");
        for (int r = 0; r < 2; r++) {
            for (int before = 0; before < 2; before++) {
                BaileyChain x = unit(24, before);
                x.step();
                due("unitPair", x.unitPair(r), 0);
                due("chainLength", x.chainLength(), 0);
                due("undoStep", x.undoStep(), -5);
                due("the pair", wholePair(x), wholePair(unit(24, r)));
                x.step();
                due("alpha(1) after a step", x.copyAlpha(0, 1), r == 0 ? 2 : 3);
                due("its order", x.order(0), 1 + r);
            }
        }
        about("Promise 2", "the pair becomes the unit pair with r = 0");
        BaileyChain x = unit(24, 1);
        x.reset(24);
        due("the pair", wholePair(x), wholePair(unit(24, 0)));
        x.step();
        due("its order after a step", x.copyAlpha(0, 1) + x.order(0), 3);
    }

    private static void rememberedSteps() {
        about("Chain step", "at most 8 steps can be undone in a row");
        for (int steps = 0; steps <= 20; steps++) {
            BaileyChain x = unit(24, 0);
            List<String> pairs = new ArrayList<>();
            for (int i = 0; i < steps; i++) {
                if (i >= steps - 8) {
                    pairs.add(wholePair(x));
                }
                x.step();
            }
            for (int i = pairs.size() - 1; i >= 0; i--) {
                due("undoStep of " + steps, x.undoStep(), Math.max(steps - 8, 0) + i);
                // Eight pairs are read here and eight before, so that the object stays below 512 calls.
                if (i < 2 || i == pairs.size() - 1) {
                    due("the pair before", wholePair(x), pairs.get(i));
                }
            }
            due("one more undoStep of " + steps, x.undoStep(), -5);
            due("chainLength", x.chainLength(), Math.max(steps - 8, 0));
            due("step again", x.step(), Math.max(steps - 8, 0) + 1);
            due("and its undoStep", x.undoStep(), Math.max(steps - 8, 0));
            due("and no more", x.undoStep(), -5);
        }
        about("Chain step", "at most 8 steps can be undone: steps and undone steps in turn");
        BaileyChain x = unit(24, 1);
        for (int i = 0; i < 10; i++) {
            x.step();
        }
        for (int i = 9; i >= 5; i--) {
            due("undoStep", x.undoStep(), i);
        }
        for (int i = 6; i <= 10; i++) {
            due("step", x.step(), i);
        }
        due("the pair", wholePair(x), wholePair(stepped(10)));
        for (int i = 9; i >= 2; i--) {
            due("undoStep", x.undoStep(), i);
        }
        due("the pair", wholePair(x), wholePair(stepped(2)));
        due("undoStep", x.undoStep(), -5);
    }

    private static BaileyChain stepped(int steps) {
        BaileyChain x = unit(24, 1);
        for (int i = 0; i < steps; i++) {
            x.step();
        }
        return x;
    }

    private static void chainLength() {
        about("Promise 23", "the chain length counts steps also if there are more than can be undone");
        BaileyChain x = unit(24, 0);
        for (int i = 1; i <= 100; i++) {
            due("step", x.step(), i);
            due("chainLength", x.chainLength(), i);
        }
        about("Details", "the chain length becomes 0 when the pair is set, even to what it is");
        List<Consumer<BaileyChain>> settings = List.of(
                y -> y.unitPair(0),
                y -> y.reset(12),
                y -> y.reset(5),
                y -> {
                    y.copyAlpha(0, 3);
                    due("setAlpha to what it is", y.setAlpha(3, 0), 0);
                },
                y -> {
                    y.copyBeta(0, 4);
                    due("setBeta to what it is", y.setBeta(4, 0), 0);
                },
                y -> due("setAlpha", y.setAlpha(0, 1), 1),
                y -> due("setBeta", y.setBeta(0, 1), 1));
        for (Consumer<BaileyChain> setting : settings) {
            for (int steps : new int[] {0, 1, 8, 9}) {
                BaileyChain y = new BaileyChain();
                for (int i = 0; i < steps; i++) {
                    y.step();
                }
                setting.accept(y);
                due("chainLength", y.chainLength(), 0);
                due("undoStep", y.undoStep(), -5);
                due("step", y.step(), 1);
                due("undoStep", y.undoStep(), 0);
                due("undoStep", y.undoStep(), -5);
            }
        }
    }

    private static void stepsBeforeASetting() {
        about("Details", "A setting that overflows changes nothing: steps from before it can be undone");
        for (int call = 0; call < 2; call++) {
            BaileyChain x = new BaileyChain();
            set(x, 0, LIMIT, LIMIT);
            x.step();
            x.step();
            String pair = wholePair(x);
            due("the setting", call == 0 ? x.setAlpha(0, 0) : x.setBeta(0, 0), OVERFLOW);
            due("chainLength", x.chainLength(), 2);
            due("the pair", wholePair(x), pair);
            due("undoStep", x.undoStep(), 1);
            due("undoStep", x.undoStep(), 0);
        }
    }

    private static void otherSeriesStay() {
        List<Consumer<BaileyChain>> before = List.of(
                x -> { },
                BaileyChain::step,
                x -> {
                    x.step();
                    x.undoStep();
                },
                x -> {
                    x.snapshot();
                    x.unitPair(0);
                    x.restore();
                },
                x -> {
                    set(x, 1, LIMIT, LIMIT);
                    due("a setting that overflows", x.setAlpha(4, 1), OVERFLOW);
                    due("a setting that overflows", x.setBeta(4, 1), OVERFLOW);
                });
        for (Consumer<BaileyChain> calls : before) {
            for (int n = 0; n < 5; n++) {
                BaileyChain x = unit(9, 1);
                calls.accept(x);
                set(x, 0, 3, -1, 2);
                String[] alphas = allOf(x, true);
                about("Promise 19", "The other series alpha stay");
                due("setAlpha", x.setAlpha(n, 0), 1);
                alphas[n] = "3-q+2q^2";
                due("the series alpha", String.join(" ", allOf(x, true)), String.join(" ", alphas));
                BaileyChain y = unit(9, 1);
                calls.accept(y);
                set(y, 0, 3, -1, 2);
                String[] betas = allOf(y, false);
                about("Promise 20", "The other series beta stay");
                due("setBeta", y.setBeta(n, 0), 1);
                betas[n] = "3-q+2q^2";
                due("the series beta", String.join(" ", allOf(y, false)), String.join(" ", betas));
            }
        }
    }

    private static String[] allOf(BaileyChain x, boolean isAlpha) {
        String[] texts = new String[5];
        for (int n = 0; n < 5; n++) {
            texts[n] = isAlpha ? alpha(x, n) : beta(x, n);
        }
        return texts;
    }

    private static void calls() {
        about("What it is", "An object is used for at most 512 calls after it has been made");
        BaileyChain x = new BaileyChain();
        for (int i = 1; i <= 512; i++) {
            due("the step " + i, x.step(), i);
        }
        BaileyChain y = new BaileyChain();
        for (int i = 0; i < 511; i++) {
            y.snapshot();
        }
        due("the 512th call", y.restore(), 12);
    }

    private static void texts() {
        about("Details", "Numbers and exponents can have zeros ahead");
        String[] zeros = {"0007", "7", "00", "0", "0000q^00", "0", "0001q^01", "q", "q^00", "1", "q^09", "q^9", "-0", "0"};
        for (int i = 0; i < zeros.length; i += 2) {
            BaileyChain x = new BaileyChain();
            due(zeros[i], parse(x, 0, zeros[i]), zeros[i + 1].equals("0") ? 0 : 1);
            due(zeros[i], show(x, 0), zeros[i + 1]);
        }
        due("00007", parse(new BaileyChain(), 0, "00007"), -1004);
        due("q^007", parse(new BaileyChain(), 0, "q^007"), -1004);
        about("Details", "an empty text is wrong");
        due("an empty text", new BaileyChain().parseSeries(0), -1000);
        BaileyChain cleared = filled();
        type(cleared, "1+q");
        cleared.clearInput();
        due("a cleared text", cleared.parseSeries(0), -1000);
        due("the register", cleared.degree(0), 2);
        about("Details", "terms at powers that do not exist must be well formed all the same");
        String[] beyond = {"q^99", "7q^12", "12345q^99", "q^999", "q^99q", "1-q^50+", "q^99^1", "q^12-q^13"};
        int[] answers = {0, 0, -1004, -1004, -1004, -1007, -1004, 0};
        for (int i = 0; i < beyond.length; i++) {
            due(beyond[i], parse(filled(), 3, beyond[i]), answers[i]);
        }
        about("Details", "a sign without a number is -1");
        String[] signs = {"-q", "-q", "-q^2", "-q^2", "1-q", "1-q", "-q^0", "-1", "q-q^3-q", "-q^3", "5+q", "5+q"};
        for (int i = 0; i < signs.length; i += 2) {
            BaileyChain x = new BaileyChain();
            parse(x, 0, signs[i]);
            due(signs[i], show(x, 0), signs[i + 1]);
        }
        about("Promise 34", "series = [\"-\"] term { (\"+\" | \"-\") term }: no sign but one \"-\" ahead, one between terms");
        String[] wrong = {"+1", "--1", "-+1", "1--1", "1++1", "1+-1", "1-", "-", "1 ", " 1", "1q1", "q1", "q^+1", "1q^"};
        int[] positions = {0, 1, 1, 2, 2, 2, 2, 1, 1, 0, 2, 1, 2, 3};
        for (int i = 0; i < wrong.length; i++) {
            due(wrong[i], parse(new BaileyChain(), 0, wrong[i]), -1000 - positions[i]);
        }
        about("Promise 34", "terms at equal powers are added");
        BaileyChain x = new BaileyChain();
        due("a sum of 0", parse(x, 0, "q^3+2q^3-3q^03"), 0);
        due("a sum of some", parse(x, 0, "1+q+1-q+q^11-3q^11"), 2);
        due("the sums", show(x, 0), "2-2q^11");
        due("the register's old terms are gone", parse(x, 0, "q^2"), 1);
        due("the register", show(x, 0), "q^2");
    }

    private static void words() {
        String[] words = {"distinct", "odd", "gap", "noones", "even", "selfconjugate"};
        about("Promise 30", "BAD_ARGUMENT if the input buffer does not hold one of these words");
        for (String word : words) {
            List<String> wrong = List.of(word.substring(1), word.substring(0, word.length() - 1), word + word.charAt(0),
                    word + " ", " " + word, word.toUpperCase(), word + "\0", word + word);
            for (String bad : wrong) {
                BaileyChain x = new BaileyChain();
                x.listPartitions(4);
                due(bad, filter(x, bad), BAD);
                about("Details", "A word that does not fit leaves the list, and empties the buffer");
                due("the list", x.part(4, 3) + x.part(0, 0), 5);
                due("clearInput", x.clearInput(), 0);
            }
            for (int i = 0; i < word.length(); i++) {
                BaileyChain x = new BaileyChain();
                char other = (char) (word.charAt(i) ^ 1);
                due("one letter of " + word, filter(x, word.substring(0, i) + other + word.substring(i + 1)), BAD);
            }
        }
        about("Promise 30", "a word that fits is consumed, and an empty list stays empty");
        for (String word : words) {
            BaileyChain x = new BaileyChain();
            due(word + " of an empty list", filter(x, word), 0);
            due("clearInput", x.clearInput(), 0);
            due("part", x.part(0, 0), NONE);
        }
        filters(words);
    }

    /** The filters at the smallest integers, where a partition has one part, two equal ones or two that differ by 1. */
    private static void filters(String[] words) {
        about("Promise 30", "each filter on the partitions of 1 to 4 and of 16");
        String[][] left = {
            {"1", "2", "3, 2 1", "4, 3 1"},
            {"1", "1 1", "3, 1 1 1", "3 1, 1 1 1 1"},
            {"1", "2", "3", "4, 3 1"},
            {"", "2", "3", "4, 2 2"},
            {"", "1 1", "2 1", "3 1, 2 2, 1 1 1 1"},
            {"1", "", "2 1", "2 2"},
        };
        int[] ofSixteen = {32, 32, 17, 55, 118, 5};
        for (int i = 0; i < words.length; i++) {
            for (int n = 1; n <= 4; n++) {
                BaileyChain x = new BaileyChain();
                x.listPartitions(n);
                int count = filter(x, words[i]);
                StringBuilder text = new StringBuilder();
                for (int index = 0; x.part(index, 0) > 0; index++) {
                    text.append(index == 0 ? "" : ", ").append(partition(x, index));
                }
                String want = left[i][n - 1];
                due(words[i] + " of " + n, text.toString(), want);
                due("the count", count, want.isEmpty() ? 0 : want.split(",").length);
            }
            BaileyChain x = new BaileyChain();
            x.listPartitions(16);
            due(words[i] + " of 16", filter(x, words[i]), ofSixteen[i]);
            due("nothing after them", x.part(ofSixteen[i], 0), NONE);
            due("the last of them", x.part(ofSixteen[i] - 1, 0) > 0 ? 1 : 0, 1);
            due(words[i] + " once more", filter(x, words[i]), ofSixteen[i]);
        }
    }

    private static void appended() {
        about("Details", "Of an integer of appended bytes, only those that are appended are looked at");
        for (int count = 1; count <= 3; count++) {
            BaileyChain x = new BaileyChain();
            int high = -1 << 8 * count;
            due("append", x.append(high | 0x373737 >>> 8 * (3 - count), count), count);
            due("parseSeries", x.parseSeries(0), 1);
            due("the number", x.coefficient(0, 0), new int[] {7, 77, 777}[count - 1]);
        }
        about("Promise 32", "the lowest bytes of an integer, the most significant of them first");
        BaileyChain x = new BaileyChain();
        x.append(0x31323334, 4);
        x.parseSeries(0);
        due("four", x.coefficient(0, 0), 1234);
        x.append(0x31323334, 2);
        x.parseSeries(0);
        due("two", x.coefficient(0, 0), 34);
        about("Input buffer", "The input buffer holds up to 60 bytes, each 0 to 127");
        for (int value : new int[] {0, 127}) {
            BaileyChain y = new BaileyChain();
            for (int i = 1; i <= 60; i++) {
                due("append of " + value, y.append(value, 1), i);
            }
            due("a 61st", y.append(value, 1), -6);
            due("parseSeries", y.parseSeries(0), -1000);
            due("the buffer is empty again", y.append(value, 1), 1);
        }
    }

    private static void statistics() {
        about("Details", "Zeros count as coefficients where a coefficient is compared with all lower ones");
        for (int n = 4; n <= 24; n++) {
            BaileyChain x = at(n);
            due("zeros alone", x.statistic(0, 4), 1);
            x.setCoefficient(0, 0, -5);
            due("a negative one, then zeros", x.statistic(0, 4), 2);
            x.setCoefficient(0, n - 1, -1);
            due("a negative one at N - 1", x.statistic(0, 4), 2);
            x.setCoefficient(0, n - 1, 1);
            due("a positive one at N - 1", x.statistic(0, 4), 3);
            x.setCoefficient(0, 0, 1);
            due("an equal one at N - 1", x.statistic(0, 4), 1);
            x.setCoefficient(0, n - 1, 2);
            due("a larger one at N - 1", x.statistic(0, 4), 2);
            due("nonzero", x.statistic(0, 0), 2);
            x.setCoefficient(0, n - 1, -LIMIT);
            due("negative", x.statistic(0, 1), 1);
            due("sign changes over zeros", x.statistic(0, 2), 1);
            due("the largest absolute value", x.statistic(0, 3), LIMIT);
            x.setCoefficient(0, 0, -1);
            due("negative", x.statistic(0, 1), 2);
            due("no sign change", x.statistic(0, 2), 0);
            onePower(n);
        }
        about("Promise 16", "each kind of the series 0, and of a series that changes its sign each time");
        int[] ofZero = {0, 0, 0, 0, 1};
        int[] ofChanges = {24, 12, 23, LIMIT, 1};
        BaileyChain x = at(24);
        for (int k = 0; k < 24; k++) {
            x.setCoefficient(1, k, k % 2 == 0 ? LIMIT : -LIMIT);
        }
        for (int kind = 0; kind < 5; kind++) {
            due("of 0, kind " + kind, x.statistic(0, kind), ofZero[kind]);
            due("of changes, kind " + kind, x.statistic(1, kind), ofChanges[kind]);
        }
    }

    /** A coefficient counts at each power from 0 to N - 1, with another one before or after it. */
    private static void onePower(int n) {
        for (int power = 0; power < n; power++) {
            BaileyChain x = at(n);
            x.setCoefficient(0, power, -7);
            due("nonzero at " + power, x.statistic(0, 0), 1);
            due("negative at " + power, x.statistic(0, 1), 1);
            due("largest at " + power, x.statistic(0, 3), 7);
            due("larger than " + power, x.statistic(0, 4), power == 0 ? 2 : 1);
            x.setCoefficient(0, power, 7);
            due("larger at " + power, x.statistic(0, 4), power == 0 ? 1 : 2);
            x.setCoefficient(0, (power + 1) % n, -7);
            due("a sign change at " + power, x.statistic(0, 2), 1);
            due("its order", x.order(0), power == n - 1 ? 0 : power);
            due("its degree", x.degree(0), Math.max(power, (power + 1) % n));
        }
    }

    private static void ranks() {
        about("Details", "Of equal registers, the one with the lower number comes first");
        for (String series : new String[] {"0", "1", "q^2-q^7", "-q^11"}) {
            BaileyChain x = new BaileyChain();
            for (int register = 0; register < 6; register++) {
                parse(x, register, series);
            }
            ranked("all " + series, x, 0, 1, 2, 3, 4, 5);
        }
        about("Promise 17", "registers that are still tied by their number: other coefficients do not matter");
        BaileyChain x = new BaileyChain();
        String[] tied = {"-9q+q^4", "q+q^2+q^3+q^4", "q-7q^4", "5q+5q^4", "q+q^3-q^4", "-q-q^4"};
        for (int register = 0; register < 6; register++) {
            parse(x, register, tied[register]);
        }
        ranked("tied", x, 0, 1, 2, 3, 4, 5);
        about("Promise 17", "ranked by their order, lowest first, with the series 0 last");
        x = new BaileyChain();
        x.setCoefficient(5, 11, 1);
        x.setCoefficient(4, 10, 1);
        x.setCoefficient(2, 0, 1);
        ranked("orders", x, 2, 4, 5, 0, 1, 3);
        about("Promise 17", "registers of equal order by their degree, highest first");
        x = new BaileyChain();
        String[] equalOrder = {"1", "1+q", "1-q^11", "1+q^10", "1+q", "q^11"};
        for (int register = 0; register < 6; register++) {
            parse(x, register, equalOrder[register]);
        }
        ranked("degrees", x, 2, 3, 1, 4, 0, 5);
    }

    private static void ranked(String what, BaileyChain x, int... registers) {
        for (int rank = 0; rank < 6; rank++) {
            due(what + ", rank " + rank, x.registerByRank(rank), registers[rank]);
        }
    }

    private static void lists() {
        about("Partitions", "the list starts with the partition with the largest first part");
        for (int n = 1; n <= 12; n++) {
            BaileyChain x = new BaileyChain();
            int count = x.listPartitions(n);
            String before = null;
            // The parts of all partitions of 12 are read with fewer than 512 calls if each is read once.
            for (int index = 0; index < count; index++) {
                StringBuilder code = new StringBuilder();
                int sum = 0;
                int last = n;
                for (int i = 0; sum < n; i++) {
                    int part = x.part(index, i);
                    due("a part in descending order", part >= 1 && part <= last ? 1 : 0, 1);
                    last = Math.max(part, 1);
                    sum += last;
                    code.append((char) ('a' + part));
                }
                due("the sum", sum, n);
                due("the order", before == null || before.compareTo(code.toString()) > 0 ? 1 : 0, 1);
                before = code.toString();
            }
        }
        about("Promise 29", "Fills the partition list: nothing of an earlier list stays");
        BaileyChain x = new BaileyChain();
        due("the longest list", x.listPartitions(16), 231);
        due("the shortest list", x.listPartitions(1), 1);
        due("its part", x.part(0, 0), 1);
        due("no second part", x.part(0, 1), NONE);
        due("no second partition", x.part(1, 0), NONE);
        due("the longest list again", x.listPartitions(16), 231);
        due("its last part", x.part(230, 15), 1);
        filter(x, "odd");
        due("a filtered list is filled again", x.listPartitions(16), 231);
        due("its last part", x.part(230, 15), 1);
    }

    private static void countsAgain() {
        about("Promise 28", "Counts the partitions: a count is the same after any other one");
        BaileyChain x = new BaileyChain();
        due("of 60", x.countPartitions(60, 1, 1), 966467);
        due("of 60, without residues", x.countPartitions(60, 12, 0), 0);
        due("of 5", x.countPartitions(5, 1, 1), 7);
        due("of 0", x.countPartitions(0, 12, 0), 1);
        due("of 61", x.countPartitions(61, 1, 1), NO_VALUE);
        due("of 1", x.countPartitions(1, 2, 1), 0);
        due("of 60 again", x.countPartitions(60, 1, 1), 966467);
    }

    private static void outputs() {
        about("Promise 35", "Writes a register as text to the output buffer, replacing its content");
        BaileyChain x = new BaileyChain();
        parse(x, 0, "1-2q+3q^11");
        due("a long text", x.format(0), 10);
        due("the text", output(x), "1-2q+3q^11");
        due("a short text", x.format(1), 1);
        due("the text", output(x), "0");
        due("no second byte", x.outputByte(1), NONE);
        about("Output buffer", "The output buffer holds the text that format wrote last");
        x.format(0);
        x.setCoefficient(0, 0, 9);
        x.reset(4);
        due("the text stays", output(x), "1-2q+3q^11");
    }

    private static void snapshots() {
        about("Promise 43", "It replaces an earlier snapshot");
        BaileyChain x = new BaileyChain();
        due("snapshot", x.snapshot(), 12);
        x.reset(4);
        due("snapshot", x.snapshot(), 4);
        x.reset(24);
        due("restore", x.restore(), 4);
        due("precision", x.precision(), 4);
        about("Promise 44", "The snapshot stays available");
        x = new BaileyChain();
        x.setCoefficient(3, 11, -7);
        x.step();
        x.snapshot();
        for (int time = 0; time < 3; time++) {
            x.reset(4 + 10 * time);
            x.unitPair(1);
            x.setCoefficient(3, 0, 1);
            due("restore", x.restore(), 12);
            due("the register", show(x, 3), "-7q^11");
            due("chainLength", x.chainLength(), 1);
            due("undoStep", x.undoStep(), 0);
            due("step", x.step(), 1);
            due("alpha(1) of r = 0", alpha(x, 1), "-q-q^2");
        }
        about("Promise 43", "a snapshot of the remembered steps: 0, 8 and 9 of them");
        for (int steps : new int[] {0, 1, 7, 8, 9, 20}) {
            BaileyChain y = unit(24, 1);
            for (int i = 0; i < steps; i++) {
                y.step();
            }
            y.snapshot();
            y.reset(6);
            for (int i = 0; i < 10; i++) {
                y.step();
            }
            due("restore", y.restore(), 24);
            due("chainLength", y.chainLength(), steps);
            for (int i = 1; i <= Math.min(steps, 8); i++) {
                due("undoStep", y.undoStep(), steps - i);
            }
            due("the pair", wholePair(y), wholePair(stepped(Math.max(steps - 8, 0))));
            due("undoStep", y.undoStep(), -5);
        }
    }

    private static void restoredPrecision() {
        about("Promise 44", "Restores the snapshot: the very next operation is one at the restored precision");
        List<ToLongFunction<BaileyChain>> operations = List.of(
                x -> x.add(2, 0, 1, 1), x -> x.multiply(2, 0, 1), x -> x.divide(2, 0, 1), x -> x.shift(2, 0, 3),
                x -> x.substitute(2, 0, 2), x -> x.product(2, 1, 1, -1), x -> x.sumSide(2), x -> x.productSide(2),
                x -> x.copyBeta(2, 4), x -> x.parseSeries(2), BaileyChain::step, x -> x.setAlpha(1, 0),
                x -> x.setBeta(1, 0), x -> x.unitPair(1), BaileyChain::undoStep);
        for (int precision : new int[] {4, 9, 23, 24}) {
            for (int between : new int[] {4, 5, 24}) {
                for (ToLongFunction<BaileyChain> operation : operations) {
                    BaileyChain x = ones(precision);
                    x.snapshot();
                    x.reset(between);
                    x.restore();
                    BaileyChain never = ones(precision);
                    due("the answer", operation.applyAsLong(x), operation.applyAsLong(never));
                    due("the result", show(x, 2), show(never, 2));
                    due("the pair", wholePair(x), wholePair(never));
                }
            }
        }
    }

    /** Registers 0 and 1 have a coefficient at each power, the chain has two steps, and the input holds a text. */
    private static BaileyChain ones(int precision) {
        BaileyChain x = at(precision);
        for (int k = 0; k < precision; k++) {
            x.setCoefficient(0, k, k + 2);
            x.setCoefficient(1, k, k % 3 == 0 ? 1 : 0);
        }
        x.step();
        x.step();
        type(x, "q^3+q^4+q^8+q^9+q^22+q^23");
        return x;
    }

    private static void questionsChangeNothing() {
        about("Series", "a question changes nothing that later calls show");
        List<ToLongFunction<BaileyChain>> questions = List.of(
                BaileyChain::precision, x -> x.coefficient(0, 0), x -> x.order(0), x -> x.degree(0),
                x -> x.firstDifference(0, 1), x -> x.valueAt(0, -3), BaileyChain::chainLength,
                x -> x.countPartitions(60, 1, 1), x -> x.registerByRank(2), x -> x.part(0, 0), x -> x.outputByte(0),
                x -> x.element(0, 0), x -> x.compareWithArray(0, 0), x -> x.statistic(3, 0), x -> x.statistic(3, 1),
                x -> x.statistic(3, 2), x -> x.statistic(3, 3), x -> x.statistic(3, 4));
        for (ToLongFunction<BaileyChain> question : questions) {
            Probe.changesLike("a question", x -> { }, question::applyAsLong, x -> { });
        }
    }

    private static void whatCallsLeaveAlone() {
        List<String> state = List.of("registers", "pair", "parameter", "pair after a setting", "steps");
        List<String> pair = List.of("pair", "parameter", "pair after a setting", "steps");
        List<String> registers = List.of("registers");
        about("Promise 2", "The partition list, the buffers, the array slots and the snapshot keep their content");
        // The parts of a snapshot stay, so a reset to any precision leaves all but the state.
        for (int precision : new int[] {4, 11, 12, 24}) {
            changes("reset", state, x -> x.reset(precision));
        }
        about("Details", "A reset to the same precision is one, too");
        Probe.changesLike("reset to the same", x -> { }, x -> x.reset(x.precision()), x -> {
            int precision = x.precision();
            x.reset(precision == 4 ? 5 : 4);
            x.reset(precision);
        });
        about("Details", "Lists, buffers and arrays stay at a restore");
        changes("restore", state, x -> {
            x.restore();
        });
        about("Promise 43", "a snapshot changes nothing but the snapshot");
        changes("snapshot", List.of("snapshot", "snapshot's pair", "snapshot's parameter", "snapshot's steps"),
                BaileyChain::snapshot);
        about("Registers", "an operation changes its target alone, and no pair that was set from it");
        changes("setCoefficient", registers, x -> x.setCoefficient(4, 0, 9));
        changes("add", registers, x -> x.add(4, 0, 1, 1));
        changes("multiply", registers, x -> x.multiply(4, 1, 1));
        changes("product", registers, x -> x.product(4, 1, 1, -1));
        changes("shift", registers, x -> x.shift(4, 0, 1));
        changes("substitute", registers, x -> x.substitute(4, 0, 2));
        changes("copyAlpha", registers, x -> x.copyAlpha(4, 1));
        changes("copyBeta", registers, x -> x.copyBeta(4, 4));
        changes("sumSide", registers, x -> x.sumSide(4));
        changes("productSide", registers, x -> x.productSide(4));
        about("Chain step", "a step, an undone one and a setting change the pair alone");
        changes("step", pair, BaileyChain::step);
        changes("undoStep", pair, BaileyChain::undoStep);
        changes("unitPair", pair, x -> x.unitPair(1));
        changes("setAlpha", pair, x -> x.setAlpha(3, 1));
        changes("setBeta", pair, x -> x.setBeta(3, 1));
        about("Description", "the list, the buffers and the slots are each by themselves");
        changes("listPartitions", List.of("list"), x -> x.listPartitions(5));
        changes("format", List.of("output"), x -> x.format(1));
        changes("append", List.of("input", "input's text", "input's word"), x -> x.append('q', 1));
        changes("clearInput", List.of("input", "input's text", "input's word"), BaileyChain::clearInput);
        changes("filterPartitions", List.of("list", "input", "input's text", "input's word"),
                BaileyChain::filterPartitions);
        changes("parseSeries", List.of("registers", "input", "input's text", "input's word"), x -> x.parseSeries(2));
        changes("allocate", List.of("slots", "slots' types"), x -> x.allocate(2, 2, 5));
        changes("release", List.of("slots", "slots' types"), x -> x.release(0));
        changes("putElement", List.of("slots", "slots' types"), x -> x.putElement(0, 0, 5));
        oneRegister();
    }

    private static void changes(String call, List<String> parts, Consumer<BaileyChain> made) {
        Probe.changes(call, 0, x -> { }, x -> {
            made.accept(x);
            return 0;
        }, parts);
    }

    private static void oneRegister() {
        about("Registers", "an operation leaves the other five registers");
        for (int target = 0; target < 6; target++) {
            int kept = target;
            List<Consumer<BaileyChain>> calls = List.of(
                    x -> x.setCoefficient(kept, 0, 99), x -> x.add(kept, 1, 2, 5), x -> x.multiply(kept, 3, 4),
                    x -> x.divide(kept, 2, 0), x -> x.shift(kept, 4, 2), x -> x.substitute(kept, 1, 3),
                    x -> x.product(kept, 1, 1, -1), x -> x.copyAlpha(kept, 1), x -> x.copyBeta(kept, 0),
                    x -> x.sumSide(kept), x -> x.productSide(kept), x -> parse(x, kept, "9-q"));
            for (Consumer<BaileyChain> call : calls) {
                BaileyChain x = filled();
                call.accept(x);
                BaileyChain before = filled();
                for (int register = 0; register < 6; register++) {
                    if (register != target) {
                        due("register " + register, show(x, register), show(before, register));
                    }
                }
            }
        }
    }
}
