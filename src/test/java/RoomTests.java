import com.sun.management.ThreadMXBean;
import java.lang.management.ManagementFactory;

/** No call makes objects: what a calculator needs is made by its constructor, and that is small. */
public final class RoomTests {
    private static final ThreadMXBean THREADS = (ThreadMXBean) ManagementFactory.getThreadMXBean();
    private static final int OBJECTS = 32;
    private static int wrong = 0;

    private static void check(String what, long bytes, long most) {
        if (bytes > most) {
            wrong++;
            System.out.println(what + " took " + bytes + " bytes, at most " + most + " are due");
        }
    }

    public static void main(String[] args) {
        // The first rounds load classes, which takes room of its own.
        callAll(new BaileyChain());
        allocated();

        BaileyChain[] objects = new BaileyChain[OBJECTS];
        long before = allocated();
        for (int i = 0; i < OBJECTS; i++) {
            objects[i] = new BaileyChain();
        }
        check("a constructor", (allocated() - before) / OBJECTS, 60000);

        before = allocated();
        for (BaileyChain object : objects) {
            callAll(object);
            callAll(object);
        }
        check("the calls", allocated() - before, 4000);

        System.out.println(wrong == 0 ? "the room is as due" : wrong + " kinds of calls take too much room");
        if (wrong != 0) {
            System.exit(1);
        }
    }

    private static long allocated() {
        return THREADS.getThreadAllocatedBytes(Thread.currentThread().getId());
    }

    private static void callAll(BaileyChain x) {
        callSeries(x);
        callPair(x);
        callPartitions(x);
        callArrays(x);
    }

    private static void callSeries(BaileyChain x) {
        x.reset(24);
        x.precision();
        x.product(0, 1, 1, -3);
        x.setCoefficient(1, 0, 1);
        x.coefficient(0, 23);
        x.order(0);
        x.degree(0);
        x.add(2, 0, 1, 9);
        x.multiply(2, 1, 0);
        x.divide(2, 0, 1);
        x.shift(3, 0, 3);
        x.substitute(3, 0, 2);
        x.firstDifference(0, 3);
        x.valueAt(0, -5);
        for (int kind = 0; kind <= 5; kind++) {
            x.statistic(0, kind);
            x.registerByRank(kind);
        }
        x.append(0x312b3271, 4);
        x.parseSeries(4);
        x.append(0x312b2b71, 4);
        x.parseSeries(4);
        x.format(0);
        x.outputByte(5);
        x.clearInput();
    }

    private static void callPair(BaileyChain x) {
        x.unitPair(1);
        x.setAlpha(1, 1);
        x.setBeta(2, 1);
        for (int i = 0; i < 10; i++) {
            x.step();
        }
        x.snapshot();
        x.undoStep();
        x.chainLength();
        x.restore();
        x.copyAlpha(1, 2);
        x.copyBeta(1, 2);
        x.sumSide(2);
        x.productSide(3);
    }

    private static void callPartitions(BaileyChain x) {
        x.countPartitions(60, 1, 1);
        x.listPartitions(16);
        x.append(0x6f6464, 3);
        x.filterPartitions();
        x.append(0x6f6465, 3);
        x.filterPartitions();
        x.part(0, 0);
    }

    private static void callArrays(BaileyChain x) {
        x.allocate(0, 3, 40);
        x.allocate(1, 3, 40);
        x.putElement(0, 39, 7);
        x.element(0, 39);
        x.copyElements(0, 0, 1, 0, 40);
        x.copyElements(0, 0, 0, 1, 39);
        x.compareWithArray(0, 0);
        x.release(0);
    }
}
