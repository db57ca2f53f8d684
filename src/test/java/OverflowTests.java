/**
 * Where a result overflows and where it doesn't: for each operation the largest and the smallest coefficient that is
 * allowed and the first that isn't, at the last power below N and at N itself, and large values on the way.
 */
public final class OverflowTests extends Check {
    private static final int[] SIGNS = {1, -1};
    private static final int HALF = LIMIT / 2;

    public static void main(String[] args) {
        add();
        multiply();
        divide();
        shiftAndSubstitute();
        product();
        setAlpha();
        setBeta();
        step();
        sides();
        textsNeverOverflow();
        powersBelowN();
        valuesOnTheWay();
        end();
    }

    private static void add() {
        about("Promise 8", "OVERFLOW if a coefficient of the result is outside the range");
        for (int sign : SIGNS) {
            for (int power : new int[] {0, 23}) {
                BaileyChain x = at(24);
                x.setCoefficient(0, power, sign * (LIMIT - 9));
                x.setCoefficient(1, power, sign);
                due("the last that fits", x.add(2, 0, 1, 9), 1);
                due("its coefficient", x.coefficient(2, power), sign * LIMIT);
                due("one more", x.add(3, 2, 1, 1), OVERFLOW);
                due("back from it", x.add(3, 2, 1, -9), 1);
                x.setCoefficient(1, power, -sign);
                due("one more by a negative factor", x.add(3, 2, 1, -1), OVERFLOW);
                due("nothing was stored", x.coefficient(3, power), sign * (LIMIT - 9));
            }
        }
        about("Promise 8", "Intermediate values never cause an overflow");
        for (int sign : SIGNS) {
            BaileyChain x = new BaileyChain();
            x.setCoefficient(0, 11, sign * LIMIT);
            x.setCoefficient(1, 11, sign * (LIMIT / 9 * 2));
            due("a multiple above the range", x.add(2, 0, 1, -9), 1);
            due("its coefficient", x.coefficient(2, 11), sign * (LIMIT - LIMIT / 9 * 2 * 9));
            due("twice the largest", x.add(2, 0, 0, -2), 1);
            due("its coefficient", x.coefficient(2, 11), -sign * LIMIT);
            due("thrice the largest", x.add(2, 0, 0, -3), OVERFLOW);
            due("five times the largest wraps no integer", x.add(2, 0, 0, -9), OVERFLOW);
        }
    }

    private static void multiply() {
        about("Promise 9", "OVERFLOW if a coefficient of the result is outside the range");
        for (int sign : SIGNS) {
            BaileyChain x = at(24);
            x.setCoefficient(0, 11, 10000);
            x.setCoefficient(1, 12, sign * 10000);
            due("the last that fits", x.multiply(2, 0, 1), 1);
            due("its coefficient", x.coefficient(2, 23), sign * LIMIT);
            x.setCoefficient(0, 12, 1);
            x.setCoefficient(1, 11, sign);
            due("one more", x.multiply(2, 0, 1), OVERFLOW);
            x.setCoefficient(0, 12, -1);
            due("one less", x.multiply(2, 0, 1), 2);
            due("its coefficient", x.coefficient(2, 23), sign * (LIMIT - 1));
            x.setCoefficient(1, 12, sign * 10001);
            due("too large", x.multiply(2, 0, 1), OVERFLOW);
        }
        about("Promise 9", "products that wrap around an int or come near a long's end");
        BaileyChain x = at(24);
        x.setCoefficient(0, 0, 65536);
        x.setCoefficient(1, 0, 65536);
        due("2^32", x.multiply(2, 0, 1), OVERFLOW);
        for (int k = 0; k < 24; k++) {
            x.setCoefficient(0, k, LIMIT);
            x.setCoefficient(1, k, -LIMIT);
        }
        due("24 times 10^16", x.multiply(2, 0, 0), OVERFLOW);
        due("-24 times 10^16", x.multiply(2, 0, 1), OVERFLOW);
        due("nothing was stored", x.order(2), NONE);
    }

    private static void divide() {
        about("Promise 10", "OVERFLOW if a coefficient of the result is outside the range");
        for (int sign : SIGNS) {
            for (int constant : SIGNS) {
                BaileyChain x = at(24);
                x.setCoefficient(0, 0, constant);
                x.setCoefficient(0, 1, 1);
                x.setCoefficient(1, 22, sign * HALF);
                x.setCoefficient(1, 23, -sign * constant * HALF);
                due("the last that fits", x.divide(2, 1, 0), 2);
                due("its coefficient", x.coefficient(2, 23), -sign * LIMIT);
                x.setCoefficient(1, 23, -sign * constant * (HALF + 1));
                due("one more", x.divide(2, 1, 0), OVERFLOW);
                due("nothing was stored", x.coefficient(2, 23), -sign * LIMIT);
                x.setCoefficient(1, 23, sign * LIMIT);
                x.setCoefficient(1, 22, 0);
                due("the largest itself", x.divide(2, 1, 0), 1);
                due("its coefficient", x.coefficient(2, 23), sign * constant * LIMIT);
            }
        }
        about("Promise 10", "quotients that wrap around an int or a long");
        BaileyChain x = at(24);
        set(x, 0, 1, -65536);
        set(x, 1, 1);
        due("2^32", x.divide(2, 1, 0), OVERFLOW);
        for (int k = 1; k < 24; k++) {
            x.setCoefficient(0, k, LIMIT);
        }
        due("powers of 10^8", x.divide(2, 1, 0), OVERFLOW);
        due("nothing was stored", x.order(2), NONE);
    }

    private static void shiftAndSubstitute() {
        about("Promise 11", "a shift never overflows: the largest coefficients only move");
        about("Promise 12", "a substitution never overflows");
        for (int sign : SIGNS) {
            BaileyChain x = at(24);
            for (int k = 0; k < 24; k++) {
                x.setCoefficient(0, k, sign * LIMIT);
            }
            due("shift by 23", x.shift(1, 0, 23), 1);
            due("its coefficient", x.coefficient(1, 23), sign * LIMIT);
            due("substitute of q^6", x.substitute(1, 0, 6), 4);
            due("its coefficient", x.coefficient(1, 18), sign * LIMIT);
        }
    }

    private static void product() {
        about("Promise 13", "OVERFLOW: the largest products that the limits allow are in range");
        BaileyChain x = at(24);
        for (int exponent = -3; exponent <= 3; exponent++) {
            for (int modulus = 1; modulus <= 12; modulus++) {
                due("all factors", x.product(0, modulus, (1 << modulus) - 1, exponent) > 0 ? 1 : 0, 1);
            }
        }
        x.product(0, 1, 1, -3);
        due("the largest", x.coefficient(0, 23), 1183221);
    }

    /** The pair whose series are all 0, at precision 4. */
    private static BaileyChain zeroPair(int r) {
        BaileyChain x = at(4);
        x.unitPair(r);
        x.setBeta(0, 0);
        return x;
    }

    private static void setAlpha() {
        about("Promise 19", "OVERFLOW if a coefficient of any beta would overflow");
        for (int sign : SIGNS) {
            for (int r = 0; r < 2; r++) {
                for (int n = 0; n < 5; n++) {
                    // How often q^2 of alpha(n) is counted in q^3 of a series beta.
                    int times = (r == 0 ? 1 : 0) + (n < 4 ? 1 : 0);
                    BaileyChain x = zeroPair(r);
                    set(x, 1, 0, 0, sign * LIMIT / Math.max(times, 1), 0);
                    due("the last that fits, n = " + n, x.setAlpha(n, 1), 1);
                    x.copyBeta(2, 4);
                    due("beta(4)", x.coefficient(2, 3), times == 0 ? 0 : sign * LIMIT);
                    x.setCoefficient(1, 3, sign);
                    due("one more, n = " + n, x.setAlpha(n, 1), times == 0 ? 1 : OVERFLOW);
                    due("the largest at N - 1", largestAlone(r, n, sign, true), 1);
                }
            }
        }
    }

    private static int largestAlone(int r, int n, int sign, boolean isAlpha) {
        BaileyChain x = zeroPair(r);
        x.setCoefficient(1, 3, sign * LIMIT);
        return isAlpha ? x.setAlpha(n, 1) : x.setBeta(n, 1);
    }

    private static void setBeta() {
        about("Promise 20", "OVERFLOW if a coefficient of any alpha would overflow");
        for (int sign : SIGNS) {
            for (int r = 0; r < 2; r++) {
                for (int n = 0; n < 5; n++) {
                    // alpha(n) has q^3 - q^2 of beta(n) at q^3, or alpha(n + 1) has the sum of both.
                    int more = r == 0 && n > 0 ? -sign : sign;
                    BaileyChain x = zeroPair(r);
                    set(x, 1, 0, 0, sign * LIMIT, 0);
                    due("the last that fits, n = " + n, x.setBeta(n, 1), 1);
                    x.setCoefficient(1, 3, more);
                    due("one more, n = " + n, x.setBeta(n, 1), r == 1 && n == 4 ? 1 : OVERFLOW);
                    due("the largest at N - 1", largestAlone(r, n, sign, false), 1);
                }
            }
        }
    }

    private static void step() {
        about("Promise 21", "OVERFLOW if a coefficient of the stepped pair is outside the range");
        for (int sign : SIGNS) {
            BaileyChain x = zeroPair(0);
            set(x, 1, 0, sign * HALF, sign * HALF, sign);
            due("setBeta", x.setBeta(1, 1), 1);
            due("the last that fits", x.step(), 1);
            due("beta(2)", beta(x, 2), sign > 0 ? "50000000q^2+100000000q^3" : "-50000000q^2-100000000q^3");
            due("undoStep", x.undoStep(), 0);
            set(x, 1, 0, sign * HALF, sign * (HALF + 1), sign);
            due("setBeta", x.setBeta(1, 1), 1);
            due("one more", x.step(), OVERFLOW);
            due("chainLength", x.chainLength(), 0);
        }
    }

    private static void sides() {
        about("Promise 26", "OVERFLOW if a coefficient of the sum is outside the range");
        about("Promise 27", "OVERFLOW if a coefficient of the quotient is outside the range");
        for (int sign : SIGNS) {
            for (int more = 0; more < 2; more++) {
                BaileyChain x = zeroPair(0);
                set(x, 1, 0, 0, 0, sign * (HALF + more));
                set(x, 2, 0, 0, sign * HALF, sign * HALF);
                due("setBeta(0)", x.setBeta(0, 1), 1);
                due("setBeta(1)", x.setBeta(1, 2), 1);
                due("sumSide", x.sumSide(3), more == 0 ? 1 : OVERFLOW);
                due("productSide", x.productSide(4), more == 0 ? 1 : OVERFLOW);
                due("the sum", x.coefficient(3, 3), more == 0 ? sign * LIMIT : 0);
                due("the quotient", x.coefficient(4, 3), more == 0 ? sign * LIMIT : 0);
            }
        }
    }

    private static void textsNeverOverflow() {
        about("Promise 34", "terms at equal powers are added: the largest sum that 60 bytes can tell");
        BaileyChain x = new BaileyChain();
        due("59 bytes", parse(x, 0, "9999" + "+9999".repeat(11)), 1);
        due("the sum", x.coefficient(0, 0), 119988);
        due("60 bytes", parse(x, 1, "-9999".repeat(12)), 1);
        due("the sum", x.coefficient(1, 0), -119988);
    }

    private static void powersBelowN() {
        about("Series", "An operation overflows if a coefficient of its exact result, at a power below N, is outside");
        for (int n = 4; n <= 24; n++) {
            for (int beyond = 0; beyond < 2; beyond++) {
                int power = n - 1 + beyond;
                long answer = beyond == 0 ? OVERFLOW : 0;
                BaileyChain x = at(n);
                x.setCoefficient(0, 1, LIMIT);
                x.setCoefficient(1, power - 1, -2);
                due("multiply, at " + power + " of " + n, x.multiply(2, 0, 1), answer);
            }
            BaileyChain x = at(n);
            set(x, 0, 1, 2);
            x.setCoefficient(1, n - 2, LIMIT);
            due("divide, at N - 1", x.divide(2, 1, 0), OVERFLOW);
            x.shift(1, 1, 1);
            due("divide, at N", x.divide(2, 1, 0), 1);
        }
        about("Series", "at a power below N: the same pair steps at N = 4 and overflows at N = 5");
        for (int n = 4; n <= 5; n++) {
            BaileyChain x = at(n);
            set(x, 0, LIMIT, -LIMIT);
            due("setBeta", x.setBeta(0, 0), 1);
            due("step", x.step(), n == 4 ? 1 : OVERFLOW);
        }
        about("Series", "at a power below N: beta(4) overflows at q^(N - 1)");
        for (int n = 4; n <= 24; n++) {
            BaileyChain x = at(n);
            x.unitPair(0);
            x.setBeta(0, 0);
            x.setCoefficient(1, n - 2, LIMIT);
            due("setAlpha, q^(N - 2)", x.setAlpha(4, 1), 1);
            x.setCoefficient(1, n - 1, 1);
            due("setAlpha, one more at q^(N - 1)", x.setAlpha(4, 1), OVERFLOW);
        }
    }

    /** The coefficients of (1 - q)^power, for a power of any sign. */
    private static void setBinomial(BaileyChain x, int register, int power) {
        long value = 1;
        for (int k = 0; k < x.precision(); k++) {
            x.setCoefficient(register, k, (int) (k % 2 == 0 ? value : -value));
            value = value * (power - k) / (k + 1);
        }
    }

    private static void valuesOnTheWay() {
        BaileyChain x = at(24);
        setBinomial(x, 0, 28);
        setBinomial(x, 1, -11);
        setBinomial(x, 2, 17);
        about("Details", "Values on the way to a coefficient never overflow: multiply");
        due("(1 - q)^28 by (1 - q)^-11", x.multiply(3, 0, 1), 18);
        due("is (1 - q)^17", x.firstDifference(3, 2), NONE);
        about("Details", "Values on the way to a coefficient never overflow: divide");
        due("(1 - q)^17 over (1 - q)^28", x.divide(3, 2, 0), 24);
        due("is (1 - q)^-11", x.firstDifference(3, 1), NONE);
        for (int sign : SIGNS) {
            for (int r = 0; r < 2; r++) {
                pairOnTheWay(sign * LIMIT, r);
            }
        }
        about("Details", "Values on the way to a coefficient never overflow: productSide");
        for (int sign : SIGNS) {
            BaileyChain y = at(24);
            set(y, 0, sign * LIMIT, -sign * LIMIT);
            due("setBeta", y.setBeta(0, 0), 1);
            due("the sum over alpha has twice the largest at q", y.productSide(1), 2);
            due("the quotient", y.firstDifference(0, 1), NONE);
            due("sumSide", y.sumSide(1), 2);
            due("the sum", y.firstDifference(0, 1), NONE);
        }
    }

    /** The unit pair times the largest coefficient: alpha divided as the relation tells is far above the range. */
    private static void pairOnTheWay(int largest, int r) {
        BaileyChain x = at(24);
        x.unitPair(r);
        x.setCoefficient(0, 0, largest);
        about("Details", "Values on the way to a coefficient never overflow: setBeta");
        due("setBeta", x.setBeta(0, 0), 1);
        x.copyAlpha(1, 4);
        due("alpha(4)", x.coefficient(1, 6), largest);
        about("Details", "Values on the way to a coefficient never overflow: setAlpha");
        due("setAlpha", x.setAlpha(4, 1), 0);
        due("beta(4)", beta(x, 4), "0");
        x.setCoefficient(2, 23, largest);
        due("setAlpha at N - 1", x.setAlpha(4, 2), OVERFLOW);
        about("Details", "Values on the way to a coefficient never overflow: step");
        due("step", x.step(), OVERFLOW);
        due("beta(0)", beta(x, 0), String.valueOf(largest));
    }
}
