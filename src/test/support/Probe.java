import java.util.Arrays;
import java.util.LinkedHashMap;
import java.util.List;
import java.util.Map;
import java.util.function.Consumer;
import java.util.function.Function;
import java.util.function.ToLongFunction;

/**
 * All that later calls can show of an object. Reading changes an object (a pair is read by way of a register),
 * so each part is read on an object of its own, made by the same calls; none of them takes 512 calls.
 */
final class Probe {
    private static final Map<String, Function<BaileyChain, String>> PARTS = new LinkedHashMap<>();

    static {
        PARTS.put("registers", Probe::registers);
        PARTS.put("pair", Probe::pair);
        PARTS.put("parameter", Probe::parameter);
        PARTS.put("pair after a setting", Probe::setting);
        PARTS.put("steps", Probe::steps);
        PARTS.put("snapshot", x -> restored(x, Probe::registers));
        PARTS.put("snapshot's pair", x -> restored(x, Probe::pair));
        PARTS.put("snapshot's parameter", x -> restored(x, Probe::parameter));
        PARTS.put("snapshot's steps", x -> restored(x, Probe::steps));
        PARTS.put("list", Probe::list);
        PARTS.put("input", x -> String.valueOf(x.clearInput()));
        PARTS.put("input's text", Probe::inputAsSeries);
        PARTS.put("input's word", Probe::inputAsWord);
        PARTS.put("output", Check::output);
        PARTS.put("slots", Probe::slots);
        PARTS.put("slots' types", Probe::slotTypes);
    }

    private Probe() {
    }

    /** States that differ in all that a call could spoil. */
    private static final Map<String, Consumer<BaileyChain>> STATES = new LinkedHashMap<>();
    private static final Map<String, Consumer<BaileyChain>> WITHOUT_SNAPSHOT = new LinkedHashMap<>();

    static {
        STATES.put("a new object", x -> { });
        STATES.put("a used object", x -> {
            takeSnapshot(x);
            use(x);
        });
        STATES.put("a full object", Probe::fill);
        WITHOUT_SNAPSHOT.put("a new object", x -> { });
        WITHOUT_SNAPSHOT.put("a used object", Probe::use);
    }

    private static void takeSnapshot(BaileyChain x) {
        x.reset(9);
        Check.parse(x, 0, "1-2q+q^8");
        Check.parse(x, 1, "3q^4");
        Check.parse(x, 4, "q-7q^2");
        x.unitPair(1);
        x.setBeta(2, 1);
        x.step();
        x.step();
        x.snapshot();
    }

    private static void use(BaileyChain x) {
        x.reset(11);
        Check.parse(x, 1, "2+q^10");
        Check.parse(x, 2, "1-q");
        Check.parse(x, 5, "-4q^3+q^5");
        x.unitPair(1);
        x.setAlpha(1, 5);
        for (int i = 0; i < 4; i++) {
            x.step();
        }
        x.undoStep();
        x.listPartitions(7);
        Check.filter(x, "distinct");
        Check.type(x, "odd");
        x.format(5);
        x.allocate(0, 0, 3);
        x.allocate(1, 1, 0);
        x.allocate(3, 3, 11);
        x.putElement(0, 1, 77);
        x.putElement(3, 10, -1L << 40);
    }

    private static void fill(BaileyChain x) {
        x.reset(24);
        for (int k = 0; k < 24; k++) {
            x.setCoefficient(3, k, k % 2 == 0 ? Check.LIMIT : -Check.LIMIT);
        }
        x.setCoefficient(0, 0, 1000);
        x.setBeta(0, 0);
        for (int i = 0; i < 10; i++) {
            x.step();
        }
        x.snapshot();
        x.step();
        x.listPartitions(8);
        x.format(0);
        Check.type(x, "9999q^23-9999q^23+9999q^22-9999q^22+9999q^21-9999q^21+q+2q^2");
        for (int slot = 0; slot < 4; slot++) {
            x.allocate(slot, slot, 40);
            x.putElement(slot, 39, Long.MIN_VALUE + 1);
        }
    }

    /** A call that is refused with an answer, after some calls, and changes nothing that later calls show. */
    static void refused(String name, long answer, Consumer<BaileyChain> before, ToLongFunction<BaileyChain> call) {
        changes(STATES, name, answer, before, call, List.of());
    }

    static void refusedWithoutSnapshot(String name, long answer, ToLongFunction<BaileyChain> call) {
        changes(WITHOUT_SNAPSHOT, name, answer, x -> { }, call, List.of());
    }

    /** A call that gives an answer and changes nothing but, at most, these parts. */
    static void changes(String name, long answer, Consumer<BaileyChain> before, ToLongFunction<BaileyChain> call,
            List<String> parts) {
        changes(STATES, name, answer, before, call, parts);
    }

    private static void changes(Map<String, Consumer<BaileyChain>> states, String name, long answer,
            Consumer<BaileyChain> before, ToLongFunction<BaileyChain> call, List<String> parts) {
        for (Map.Entry<String, Consumer<BaileyChain>> state : states.entrySet()) {
            String where = name + ", of " + state.getKey();
            Consumer<BaileyChain> start = state.getValue().andThen(before);
            Check.due(where, call.applyAsLong(made(start)), answer);
            same(where, start, start.andThen(call::applyAsLong), parts);
        }
    }

    /** A call that changes just what another one does. */
    static void changesLike(String name, Consumer<BaileyChain> before, Consumer<BaileyChain> call,
            Consumer<BaileyChain> other) {
        for (Map.Entry<String, Consumer<BaileyChain>> state : STATES.entrySet()) {
            Consumer<BaileyChain> start = state.getValue().andThen(before);
            same(name + ", of " + state.getKey(), start.andThen(other), start.andThen(call), List.of());
        }
    }

    private static void same(String name, Consumer<BaileyChain> one, Consumer<BaileyChain> other, List<String> but) {
        for (Map.Entry<String, Function<BaileyChain, String>> part : PARTS.entrySet()) {
            if (!but.contains(part.getKey())) {
                String want = part.getValue().apply(made(one));
                Check.due(name + ": the " + part.getKey() + " afterwards", part.getValue().apply(made(other)), want);
            }
        }
    }

    private static BaileyChain made(Consumer<BaileyChain> calls) {
        BaileyChain x = new BaileyChain();
        calls.accept(x);
        return x;
    }

    private static String restored(BaileyChain x, Function<BaileyChain, String> part) {
        int answer = x.restore();
        return answer < 0 ? "answer " + answer : answer + " " + part.apply(x);
    }

    private static String registers(BaileyChain x) {
        StringBuilder text = new StringBuilder().append(x.precision());
        for (int register = 0; register < 6; register++) {
            text.append(" |");
            append(text, x, register);
        }
        return text.toString();
    }

    private static void append(StringBuilder text, BaileyChain x, int register) {
        int length = x.precision();
        for (int k = 0; k < length; k++) {
            text.append(' ').append(x.coefficient(register, k));
        }
    }

    private static String pair(BaileyChain x) {
        StringBuilder text = new StringBuilder();
        for (int n = 0; n < 5; n++) {
            x.copyAlpha(0, n);
            append(text.append(" alpha"), x, 0);
            x.copyBeta(0, n);
            append(text.append(" beta"), x, 0);
        }
        return text.toString();
    }

    /** A step shows the parameter a, and how long the chain is. */
    private static String parameter(BaileyChain x) {
        return x.step() + " " + pair(x);
    }

    /** A setting shows whether something of a refused one was kept aside. */
    private static String setting(BaileyChain x) {
        Check.set(x, 0, 2, 1);
        StringBuilder text = new StringBuilder().append(x.setAlpha(2, 0));
        appendValues(text, x);
        return text.toString();
    }

    private static void appendValues(StringBuilder text, BaileyChain x) {
        for (int n = 0; n < 5; n++) {
            text.append(' ').append(Check.kept(x, x.copyAlpha(0, n), 0));
            text.append(' ').append(Check.kept(x, x.copyBeta(0, n), 0));
        }
    }

    private static String steps(BaileyChain x) {
        StringBuilder text = new StringBuilder().append(x.chainLength());
        for (int i = 0; i < 9; i++) {
            text.append(" to ").append(x.undoStep());
            appendValues(text, x);
        }
        return text.toString();
    }

    private static String list(BaileyChain x) {
        StringBuilder text = new StringBuilder();
        for (int index = 0; x.part(index, 0) > 0; index++) {
            text.append(Check.partition(x, index)).append(", ");
        }
        return text.toString();
    }

    /** What the input buffer holds, seen by the parser at the largest precision. */
    private static String inputAsSeries(BaileyChain x) {
        x.reset(24);
        StringBuilder text = new StringBuilder().append(x.parseSeries(0));
        append(text, x, 0);
        return text.append(' ').append(x.clearInput()).toString();
    }

    private static String inputAsWord(BaileyChain x) {
        x.listPartitions(7);
        return x.filterPartitions() + " " + list(x);
    }

    private static String slots(BaileyChain x) {
        StringBuilder text = new StringBuilder();
        for (int slot = 0; slot < 4; slot++) {
            text.append(Check.elements(x, slot)).append(" | ");
        }
        for (int slot = 0; slot < 4; slot++) {
            text.append(x.release(slot)).append(' ');
        }
        return text.toString();
    }

    private static String slotTypes(BaileyChain x) {
        long[] values = new long[8];
        for (int slot = 0; slot < 4; slot++) {
            values[2 * slot] = x.putElement(slot, 0, 0x123456789abcdef0L);
            values[2 * slot + 1] = x.element(slot, 0);
        }
        return Arrays.toString(values);
    }
}
