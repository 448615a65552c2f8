/** Promises 9 to 15: what the calls answer. What they refuse is tested in RefusedCallsTest. */
public final class BinsTest {
    private static final Check check = new Check();

    public static void main(String[] args) {
        promise9AddBin();
        promise10SetGrowth();
        promise11Soil();
        promise12BinCount();
        promise13Bin();
        promise13Rate();
        promise14Expected();
        promise14TodayAndTheLastDay();
        promise15FullOn();
        promise15Today();
        promise15LastDay();
        promise15Never();
        check.end();
    }

    private static void promise9AddBin() {
        RefusePlanner x = Check.withPlaces(2);
        check.due("addBin(1, 0, 10, 0)", x.addBin(1, 0, 10, 0), 0);
        check.due("addBin(2, 2, 1000, 200)", x.addBin(2, 2, 1000, 200), 1);
        x.pass(3);
        check.due("addBin(1, 1, 13, 7)", x.addBin(1, 1, 13, 7), 2);
        check.dueFacts(x, 0, 1, 0, 0, 5, 0, 0, 0, 0);
        check.dueFacts(x, 1, 2, 2, 600, 500, 0, 0, 0, 0);
        check.dueFacts(x, 2, 1, 1, 0, 6, 3, 0, 0, 0);
    }

    private static void promise10SetGrowth() {
        RefusePlanner x = Check.withPlaces(1);
        x.addBin(1, 0, 1000, 7);
        x.addBin(1, 0, 1000, 9);
        check.due("setGrowth(0, 200)", x.setGrowth(0, 200), 7);
        check.due("setGrowth(0, 0)", x.setGrowth(0, 0), 200);
        check.due("setGrowth(0, 3)", x.setGrowth(0, 3), 0);
        x.pass(2);
        check.due("bin(0, 2)", x.bin(0, 2), 6);
        check.due("bin(1, 2)", x.bin(1, 2), 18);
    }

    private static void promise11Soil() {
        RefusePlanner x = Check.withPlaces(1);
        x.addBin(1, 0, 100, 0);
        x.addBin(1, 0, 100, 0);
        check.due("soil(1)", x.soil(1), true);
        check.due("bin(1, 7)", x.bin(1, 7), 1);
        check.due("bin(0, 7)", x.bin(0, 7), 0);
        check.due("soil(1) again", x.soil(1), false);
        check.due("bin(1, 7)", x.bin(1, 7), 1);
        x.fetch(1, 50);
        check.due("soil(1) after a warning", x.soil(1), true);
    }

    private static void promise12BinCount() {
        RefusePlanner x = Check.withPlaces(1);
        check.due("binCount() without bins", x.binCount(), 0);
        for (int bin = 0; bin < 16; bin++) {
            x.addBin(1, 2, 10, 0);
            check.due("binCount()", x.binCount(), bin + 1);
        }
        check.refused(x, "addBin, when there are sixteen", Check.STATE, () -> x.addBin(1, 2, 10, 0));
        check.due("binCount() after the refused one", x.binCount(), 16);
    }

    private static void promise13Bin() {
        RefusePlanner x = Check.withPlaces(3);
        x.addBin(1, 0, 20, 0);
        x.addBin(3, 2, 40, 30);
        x.pass(2);
        check.dueFacts(x, 1, 3, 2, 40, 20, 0, 1, 0, 0);
        x.soil(1);
        x.fetch(1, 50);
        x.soil(1);
        x.fetch(1, 50);
        x.soil(1);
        check.dueFacts(x, 1, 3, 2, 40, 20, 0, 1, 2, 1);
        check.dueFacts(x, 0, 1, 0, 0, 10, 0, 0, 0, 0);
    }

    private static void promise13Rate() {
        RefusePlanner x = Check.withPlaces(1);
        x.addBin(1, 0, 100, 7);
        x.pass(3);
        x.fetch(0, 50);
        // seen 10 * 21 / 3 = 70; (50 * 3 + 70) / 4 = 55
        check.dueFacts(x, 0, 1, 0, 0, 55, 3);
        x.pass(10);
        x.fetch(0, 50);
        // seen 10 * 70 / 10 = 70, though 20 litres stay behind; (55 * 3 + 70) / 4 = 58.75
        check.dueFacts(x, 0, 1, 0, 20, 58, 13);
        x.setGrowth(0, 1);
        x.pass(7);
        x.fetch(0, 50);
        // seen 10 * 27 / 7 = 38.57; (58 * 3 + 38) / 4 = 53
        check.dueFacts(x, 0, 1, 0, 0, 53, 20);
    }

    private static void promise14Expected() {
        RefusePlanner x = Check.withPlaces(1);
        x.pass(5);
        x.addBin(1, 0, 15, 200);
        check.due("expected(0, 6)", x.expected(0, 6), 0);
        check.due("expected(0, 7)", x.expected(0, 7), 1);
        check.due("expected(0, 26)", x.expected(0, 26), 14);
        check.due("expected(0, 27)", x.expected(0, 27), 15);
        x.pass(10);
        check.due("expected(0, 15)", x.expected(0, 15), 7);
        x.fetch(0, 50);
        check.due("expected(0, 15) when emptied", x.expected(0, 15), 0);
    }

    private static void promise14TodayAndTheLastDay() {
        RefusePlanner x = Check.withPlaces(1);
        x.addBin(1, 0, 1000, 0);
        check.due("expected(0, 0) on day 0", x.expected(0, 0), 0);
        check.due("expected(0, 999) on day 0", x.expected(0, 999), 1000);
        Check.onDay(x, 399);
        x.fetch(0, 50);
        // 500 tenths of a litre become 375, of which 600 days make more than a bin.
        check.due("expected(0, 399) on day 399", x.expected(0, 399), 0);
        check.due("expected(0, 400) on day 399", x.expected(0, 400), 37);
        check.due("expected(0, 999) on day 399", x.expected(0, 999), 1000);
    }

    private static void promise15FullOn() {
        RefusePlanner x = Check.withPlaces(1);
        x.addBin(1, 0, 100, 0);
        x.addBin(1, 0, 11, 0);
        check.due("fullOn(0)", x.fullOn(0), 20);
        check.due("fullOn(1)", x.fullOn(1), 22);
    }

    /** "the first day, not less than today". */
    private static void promise15Today() {
        RefusePlanner x = Check.withPlaces(1);
        x.addBin(1, 0, 100, 0);
        x.pass(19);
        check.due("fullOn(0) the day before", x.fullOn(0), 20);
        x.pass(1);
        check.due("fullOn(0) on the day", x.fullOn(0), 20);
        x.pass(1);
        check.due("fullOn(0) behind the day", x.fullOn(0), 21);
        Check.onDay(x, 399);
        check.due("fullOn(0) on the last day", x.fullOn(0), 399);
    }

    /** "-1 if there is none up to day 999". */
    private static void promise15LastDay() {
        RefusePlanner x = Check.withPlaces(1);
        x.addBin(1, 0, 60, 0);
        x.addBin(1, 0, 61, 0);
        Check.onDay(x, 390);
        // Nine visits that find nothing bring the rate from 30 to 1: 22, 16, 12, 9, 6, 4, 3, 2, 1.
        for (int i = 0; i < 9; i++) {
            x.pass(1);
            x.fetch(0, 50);
            x.fetch(1, 50);
        }
        check.due("bin(0, 3)", x.bin(0, 3), 1);
        check.due("bin(1, 3)", x.bin(1, 3), 1);
        check.due("expected(0, 998)", x.expected(0, 998), 59);
        check.due("fullOn(0), on the last day", x.fullOn(0), 999);
        check.due("fullOn(1), a day behind the last", x.fullOn(1), -1);
    }

    private static void promise15Never() {
        RefusePlanner x = Check.withPlaces(1);
        x.addBin(1, 0, 10, 0);
        // Four visits that find nothing bring the rate from 5 to 0: 3, 2, 1, 0.
        for (int i = 0; i < 4; i++) {
            check.due("fullOn(0), a rate above 0", x.fullOn(0) > 0, true);
            x.pass(1);
            x.fetch(0, 50);
        }
        check.due("fullOn(0), a rate of 0", x.fullOn(0), -1);
    }
}
