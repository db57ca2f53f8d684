/** The examples of the document, each on a new object. */
public final class ExampleTests {
    private static int wrong = 0;

    private static void due(String call, long got, long want) {
        if (got != want) {
            wrong++;
            System.out.println(call + " answered " + got + ", due is " + want);
        }
    }

    public static void main(String[] args) {
        chain();
        series();
        partitions();
        texts();
        System.out.println(wrong == 0 ? "all examples are as due" : wrong + " answers are not as due");
        if (wrong != 0) {
            System.exit(1);
        }
    }

    private static void chain() {
        BaileyChain x = new BaileyChain();
        due("step()", x.step(), 1);
        due("sumSide(0)", x.sumSide(0), 12);
        due("productSide(1)", x.productSide(1), 12);
        due("firstDifference(0, 1)", x.firstDifference(0, 1), -7);
        due("product(2, 5, 18, -1)", x.product(2, 5, 18, -1), 12);
        due("firstDifference(0, 2)", x.firstDifference(0, 2), -7);
        due("coefficient(2, 11)", x.coefficient(2, 11), 7);
    }

    private static void series() {
        BaileyChain x = new BaileyChain();
        due("setCoefficient(0, 0, 1)", x.setCoefficient(0, 0, 1), 1);
        due("setCoefficient(0, 1, -1)", x.setCoefficient(0, 1, -1), 1);
        due("divide(1, 0, 0)", x.divide(1, 0, 0), 1);
        due("multiply(2, 0, 0)", x.multiply(2, 0, 0), 3);
        due("format(2)", x.format(2), 8);
        due("outputByte(0)", x.outputByte(0), 49);
        due("outputByte(1)", x.outputByte(1), 45);
        due("divide(3, 0, 4)", x.divide(3, 0, 4), -4);
    }

    private static void partitions() {
        BaileyChain x = new BaileyChain();
        due("listPartitions(5)", x.listPartitions(5), 7);
        due("part(0, 0)", x.part(0, 0), 5);
        due("part(1, 1)", x.part(1, 1), 1);
        due("part(7, 0)", x.part(7, 0), -7);
        due("part(0, -1)", x.part(0, -1), -1);
        due("countPartitions(5, 2, 2)", x.countPartitions(5, 2, 2), 3);
    }

    private static void texts() {
        BaileyChain x = new BaileyChain();
        due("append(824930654, 4)", x.append(824930654, 4), 4);
        due("parseSeries(0)", x.parseSeries(0), -1004);
        due("append(12913, 2)", x.append(12913, 2), 2);
        due("parseSeries(0)", x.parseSeries(0), 1);
        due("degree(0)", x.degree(0), 1);
        due("registerByRank(0)", x.registerByRank(0), 0);
        due("registerByRank(1)", x.registerByRank(1), 1);
    }
}
