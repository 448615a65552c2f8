/** Promises 9 to 15. */
public final class BinsTest {
    private static final Class<IndexOutOfBoundsException> INDEX = IndexOutOfBoundsException.class;
    private static final Class<IllegalArgumentException> ARGUMENT = IllegalArgumentException.class;
    private static final Class<IllegalStateException> STATE = IllegalStateException.class;
    private static final Check check = new Check();

    public static void main(String[] args) {
        promise9AddBin();
        promise9Refusals();
        promise10SetGrowth();
        promise11Soil();
        promise12BinCount();
        promise13Bin();
        promise13Rate();
        promise14Expected();
        promise15FullOn();
        promise15LastDay();
        check.end();
    }

    private static void dueFacts(RefusePlanner x, int bin, int... facts) {
        for (int what = 0; what < facts.length; what++) {
            check.due("bin(" + bin + ", " + what + ")", x.bin(bin, what), facts[what]);
        }
    }

    private static void promise9AddBin() {
        RefusePlanner x = Check.withPlaces(2);
        check.due("addBin(1, 0, 10, 0)", x.addBin(1, 0, 10, 0), 0);
        check.due("addBin(2, 2, 1000, 200)", x.addBin(2, 2, 1000, 200), 1);
        x.pass(3);
        check.due("addBin(1, 1, 13, 7)", x.addBin(1, 1, 13, 7), 2);
        dueFacts(x, 0, 1, 0, 0, 5, 0, 0, 0, 0);
        dueFacts(x, 1, 2, 2, 600, 500, 0, 0, 0, 0);
        dueFacts(x, 2, 1, 1, 0, 6, 3, 0, 0, 0);
    }

    private static void promise9Refusals() {
        RefusePlanner x = Check.withPlaces(1);
        check.refused(x, "addBin(0, 0, 10, 0)", INDEX, () -> x.addBin(0, 0, 10, 0));
        check.refused(x, "addBin(2, 0, 10, 0)", INDEX, () -> x.addBin(2, 0, 10, 0));
        check.refused(x, "addBin(-1, 0, 10, 0)", INDEX, () -> x.addBin(-1, 0, 10, 0));
        check.refused(x, "addBin(1, 3, 10, 0)", INDEX, () -> x.addBin(1, 3, 10, 0));
        check.refused(x, "addBin(1, -1, 10, 0)", INDEX, () -> x.addBin(1, -1, 10, 0));
        check.refused(x, "addBin(0, 0, 9, 0)", INDEX, () -> x.addBin(0, 0, 9, 0));
        check.refused(x, "addBin(1, 3, 9, 201)", INDEX, () -> x.addBin(1, 3, 9, 201));
        check.refused(x, "addBin(1, 0, 9, 0)", ARGUMENT, () -> x.addBin(1, 0, 9, 0));
        check.refused(x, "addBin(1, 0, 1001, 0)", ARGUMENT, () -> x.addBin(1, 0, 1001, 0));
        check.refused(x, "addBin(1, 0, 10, -1)", ARGUMENT, () -> x.addBin(1, 0, 10, -1));
        check.refused(x, "addBin(1, 0, 10, 201)", ARGUMENT, () -> x.addBin(1, 0, 10, 201));
        for (int i = 0; i < 16; i++) {
            check.due("addBin", x.addBin(1, i % 3, 10 + i, i), i);
        }
        check.refused(x, "addBin, the seventeenth", STATE, () -> x.addBin(1, 0, 10, 0));
        check.refused(x, "addBin(1, 0, 9, 0), the seventeenth", ARGUMENT, () -> x.addBin(1, 0, 9, 0));
        check.refused(x, "addBin(0, 0, 10, 0), the seventeenth", INDEX, () -> x.addBin(0, 0, 10, 0));
        check.due("binCount()", x.binCount(), 16);
    }

    private static void promise10SetGrowth() {
        RefusePlanner x = Check.withPlaces(1);
        x.addBin(1, 0, 1000, 7);
        x.addBin(1, 0, 1000, 9);
        check.due("setGrowth(0, 200)", x.setGrowth(0, 200), 7);
        check.due("setGrowth(0, 0)", x.setGrowth(0, 0), 200);
        check.due("setGrowth(0, 3)", x.setGrowth(0, 3), 0);
        check.refused(x, "setGrowth(0, -1)", ARGUMENT, () -> x.setGrowth(0, -1));
        check.refused(x, "setGrowth(0, 201)", ARGUMENT, () -> x.setGrowth(0, 201));
        check.refused(x, "setGrowth(2, 5)", INDEX, () -> x.setGrowth(2, 5));
        check.refused(x, "setGrowth(-1, 201)", INDEX, () -> x.setGrowth(-1, 201));
        check.refused(x, "setGrowth(MAX, 5)", INDEX, () -> x.setGrowth(Integer.MAX_VALUE, 5));
        x.pass(2);
        check.due("bin(0, 2)", x.bin(0, 2), 6);
        check.due("bin(1, 2)", x.bin(1, 2), 18);
    }

    private static void promise11Soil() {
        RefusePlanner x = Check.withPlaces(1);
        x.addBin(1, 0, 100, 0);
        x.addBin(1, 0, 100, 0);
        check.due("soil(1)", x.soil(1), true);
        check.due("bin(1, 7)", x.bin(1, 7), 1);
        check.due("bin(0, 7)", x.bin(0, 7), 0);
        check.due("soil(1) again", x.soil(1), false);
        check.due("bin(1, 7)", x.bin(1, 7), 1);
        x.fetch(1, 50);
        check.due("soil(1) after a warning", x.soil(1), true);
        check.refused(x, "soil(2)", INDEX, () -> x.soil(2));
        check.refused(x, "soil(-1)", INDEX, () -> x.soil(-1));
    }

    private static void promise12BinCount() {
        RefusePlanner x = Check.withPlaces(1);
        check.due("binCount()", x.binCount(), 0);
        x.addBin(1, 0, 10, 0);
        check.due("binCount()", x.binCount(), 1);
        x.addBin(1, 2, 10, 0);
        check.due("binCount()", x.binCount(), 2);
    }

    private static void promise13Bin() {
        RefusePlanner x = Check.withPlaces(3);
        x.addBin(1, 0, 20, 0);
        x.addBin(3, 2, 40, 30);
        x.pass(2);
        dueFacts(x, 1, 3, 2, 40, 20, 0, 1, 0, 0);
        x.soil(1);
        x.fetch(1, 50);
        x.soil(1);
        x.fetch(1, 50);
        x.soil(1);
        dueFacts(x, 1, 3, 2, 40, 20, 0, 1, 2, 1);
        dueFacts(x, 0, 1, 0, 0, 10, 0, 0, 0, 0);
        check.refused(x, "bin(1, 8)", INDEX, () -> x.bin(1, 8));
        check.refused(x, "bin(1, 9)", INDEX, () -> x.bin(1, 9));
        check.refused(x, "bin(1, -1)", INDEX, () -> x.bin(1, -1));
        check.refused(x, "bin(2, 0)", INDEX, () -> x.bin(2, 0));
        check.refused(x, "bin(-1, 0)", INDEX, () -> x.bin(-1, 0));
    }

    private static void promise13Rate() {
        RefusePlanner x = Check.withPlaces(1);
        x.addBin(1, 0, 100, 7);
        x.fetch(0, 50);
        dueFacts(x, 0, 1, 0, 0, 50, 0);
        x.pass(3);
        x.fetch(0, 50);
        // seen 10 * 21 / 3 = 70; (50 * 3 + 70) / 4 = 55
        dueFacts(x, 0, 1, 0, 0, 55, 3);
        x.fetch(0, 50);
        dueFacts(x, 0, 1, 0, 0, 55, 3);
        x.pass(10);
        x.fetch(0, 50);
        // seen 10 * 70 / 10 = 70, though 20 litres stay behind; (55 * 3 + 70) / 4 = 58.75
        dueFacts(x, 0, 1, 0, 20, 58, 13);
        x.setGrowth(0, 1);
        x.pass(7);
        x.fetch(0, 50);
        // seen 10 * 27 / 7 = 38.57; (58 * 3 + 38) / 4 = 53
        dueFacts(x, 0, 1, 0, 0, 53, 20);
    }

    private static void promise14Expected() {
        RefusePlanner x = Check.withPlaces(1);
        x.pass(5);
        x.addBin(1, 0, 15, 200);
        check.due("expected(0, 5)", x.expected(0, 5), 0);
        check.due("expected(0, 6)", x.expected(0, 6), 0);
        check.due("expected(0, 7)", x.expected(0, 7), 1);
        check.due("expected(0, 26)", x.expected(0, 26), 14);
        check.due("expected(0, 27)", x.expected(0, 27), 15);
        check.due("expected(0, 999)", x.expected(0, 999), 15);
        x.pass(10);
        check.due("expected(0, 15)", x.expected(0, 15), 7);
        check.refused(x, "expected(0, 14)", ARGUMENT, () -> x.expected(0, 14));
        check.refused(x, "expected(0, 1000)", ARGUMENT, () -> x.expected(0, 1000));
        check.refused(x, "expected(0, MIN)", ARGUMENT, () -> x.expected(0, Integer.MIN_VALUE));
        check.refused(x, "expected(1, 15)", INDEX, () -> x.expected(1, 15));
        check.refused(x, "expected(-1, 14)", INDEX, () -> x.expected(-1, 14));
        x.fetch(0, 50);
        check.due("expected(0, 15) when emptied", x.expected(0, 15), 0);
    }

    private static void promise15FullOn() {
        RefusePlanner x = Check.withPlaces(1);
        x.addBin(1, 0, 100, 0);
        x.addBin(1, 0, 11, 0);
        check.due("fullOn(0)", x.fullOn(0), 20);
        check.due("fullOn(1)", x.fullOn(1), 22);
        x.pass(20);
        check.due("fullOn(0) on the day", x.fullOn(0), 20);
        x.pass(1);
        check.due("fullOn(0) behind the day", x.fullOn(0), 21);
        check.refused(x, "fullOn(2)", INDEX, () -> x.fullOn(2));
        check.refused(x, "fullOn(-1)", INDEX, () -> x.fullOn(-1));
    }

    private static void promise15LastDay() {
        RefusePlanner x = Check.withPlaces(1);
        x.addBin(1, 0, 60, 0);
        x.addBin(1, 0, 61, 0);
        for (int i = 0; i < 6; i++) {
            x.pass(60);
        }
        x.pass(30);
        // Nine visits that find nothing bring the rate from 30 to 1: 22, 16, 12, 9, 6, 4, 3, 2, 1.
        for (int i = 0; i < 9; i++) {
            x.pass(1);
            x.fetch(0, 50);
            x.fetch(1, 50);
        }
        check.due("bin(0, 3)", x.bin(0, 3), 1);
        check.due("bin(1, 3)", x.bin(1, 3), 1);
        check.due("fullOn(0)", x.fullOn(0), 999);
        check.due("fullOn(1)", x.fullOn(1), -1);
        check.due("expected(0, 998)", x.expected(0, 998), 59);
    }
}
