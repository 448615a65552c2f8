import java.math.BigInteger;

/** Promises 16 to 24: what the calls answer. What they refuse is tested in RefusedCallsTest. */
public final class PlansAndToursTest {
    private static final Check check = new Check();

    public static void main(String[] args) {
        promise16PlanSize();
        promise16LastDay();
        promise17Planned();
        promise17Ties();
        promise18Collect();
        promise18CollectAgain();
        promise18EmptyPlan();
        promise18Dirty();
        promise18PlanIsMadeFirst();
        promise18Capacities();
        promise19Fetch();
        promise19NotDue();
        promise19Dirty();
        promise20WouldTake();
        promise20NothingChanges();
        promise20Holiday();
        promise20EmptyPlan();
        promise21Total();
        promise21EveryKindForItself();
        promise22Wasted();
        promise23Error();
        promise23NoBins();
        promise23LeastAndMost();
        promise24Digest();
        promise24WrapsAround();
        promise24AllPlacesAndBins();
        check.end();
    }

    /**
     * Two bins of 100 litres at place 1, full on day 15, when they are due. Place 2 has the tip
     * nearest to them, place 3 the one that lies best on the way home.
     */
    private static RefusePlanner twoBinsAndTips() {
        RefusePlanner x = Check.withPlaces(3);
        x.setMinutes(0, 1, 20);
        x.setMinutes(1, 2, 3);
        x.setMinutes(2, 0, 100);
        x.setMinutes(1, 3, 8);
        x.setMinutes(3, 0, 9);
        x.setTip(2, 1, true);
        x.setTip(3, 1, true);
        x.addBin(1, 1, 100, 50);
        x.addBin(1, 1, 100, 50);
        x.pass(15);
        return x;
    }

    private static void promise16PlanSize() {
        RefusePlanner x = Check.withPlaces(1);
        x.addBin(1, 1, 100, 0);
        x.addBin(1, 2, 100, 0);
        x.addBin(1, 1, 101, 0);
        x.pass(14);
        check.duePlan(x, 1);
        x.pass(1);
        check.duePlan(x, 0);
        check.duePlan(x, 1, 0);
        check.duePlan(x, 2, 1);
        x.pass(1);
        check.duePlan(x, 1, 0, 2);
    }

    private static void promise16LastDay() {
        RefusePlanner x = Check.onDay(Check.withPlaces(1), 398);
        x.addBin(1, 0, 10, 200);
        x.pass(1);
        x.fetch(0, 50);
        // seen 100; (5 * 3 + 100) / 4 = 28: 2 litres on day 400
        check.due("planSize(0) on day 399", x.planSize(0), 0);
        check.due("expected(0, 400)", x.expected(0, 400), 2);
    }

    private static void promise17Planned() {
        RefusePlanner x = Check.withPlaces(4);
        x.setMinutes(0, 1, 50);
        x.setMinutes(0, 2, 40);
        x.setMinutes(0, 3, 10);
        x.setMinutes(0, 4, 20);
        x.setMinutes(3, 4, 30);
        x.setMinutes(3, 1, 5);
        x.setMinutes(3, 2, 31);
        x.setMinutes(1, 2, 60);
        x.setMinutes(1, 4, 59);
        x.setMinutes(4, 2, 1);
        for (int place = 1; place <= 4; place++) {
            x.addBin(place, 0, 20, 0);
        }
        x.addBin(1, 1, 20, 0);
        x.pass(15);
        // from the depot to 3, from there to 1 (5), from there to 4 (59), then 2
        check.duePlan(x, 0, 2, 0, 3, 1);
        check.duePlan(x, 1, 4);
        check.duePlan(x, 2);
        check.due("planned(1, 0)", x.planned(1, 0), 4);
        check.due("planned(0, 0), straight after", x.planned(0, 0), 2);
        check.due("planned(0, 3)", x.planned(0, 3), 1);
        check.refused(x, "planned(0, 4)", Check.INDEX, () -> x.planned(0, 4));
    }

    private static void promise17Ties() {
        RefusePlanner x = Check.withPlaces(3);
        x.addBin(1, 0, 20, 0);
        x.addBin(2, 0, 20, 0);
        x.addBin(3, 0, 20, 0);
        x.addBin(1, 0, 20, 0);
        x.setMinutes(0, 3, 29);
        x.pass(15);
        // bin 2 first; then 0, 1 and 3 are all 30 minutes off; then 3 stands where 0 stands
        check.duePlan(x, 0, 2, 0, 3, 1);
        x.setMinutes(0, 3, 30);
        check.duePlan(x, 0, 0, 3, 1, 2);
    }

    private static void promise18Collect() {
        RefusePlanner x = twoBinsAndTips();
        // 20 there, 5; 3 + 10 + 3 over the tip at 2, 5; 8 + 10 + 9 over the tip at 3
        check.due("collect(1, 199)", x.collect(1, 199), 73);
        check.dueTotals(x, 1, 200, 2, 73, 1);
        // seen 10 * 100 / 15 = 66; (50 * 3 + 66) / 4 = 54
        check.dueFacts(x, 0, 1, 1, 0, 54, 15);
        check.dueFacts(x, 1, 1, 1, 0, 54, 15);
        RefusePlanner room = twoBinsAndTips();
        check.due("collect(1, 200), both have room", room.collect(1, 200), 57);
        check.dueTotals(room, 1, 200, 1, 57, 1);
    }

    private static void promise18CollectAgain() {
        RefusePlanner x = twoBinsAndTips();
        check.due("collect(1, 60), neither has room", x.collect(1, 60), 73);
        check.dueTotals(x, 1, 120, 2, 73, 1);
        check.dueFacts(x, 0, 1, 1, 40, 54, 15);
        check.dueFacts(x, 1, 1, 1, 40, 54, 15);
        check.due("collect(1, 60) again, nothing due", x.collect(1, 60), 0);
        check.dueTotals(x, 1, 120, 2, 73, 1);
        x.setTip(0, 1, false);
        x.setTip(3, 1, false);
        x.setMinutes(0, 1, 30);
        check.due("fetch(0, 60) by the only tip", x.fetch(0, 60), 30 + 5 + 3 + 10 + 100);
    }

    /** "0 if the plan has no bins, and then nothing changes". */
    private static void promise18EmptyPlan() {
        RefusePlanner none = new RefusePlanner();
        long start = none.digest();
        check.due("collect(0, 50) without bins", none.collect(0, 50), 0);
        check.due("digest() after it", none.digest(), start);
        RefusePlanner x = twoBinsAndTips();
        x.addBin(1, 2, 100, 200);
        x.soil(2);
        x.pass(1);
        long before = x.digest();
        check.due("collect(0, 50), no bin of this kind", x.collect(0, 50), 0);
        check.due("collect(2, 5000), its bin not due", x.collect(2, 5000), 0);
        check.due("digest() after empty plans", x.digest(), before);
        check.dueTotals(x, 2, 0, 0, 0, 0);
    }

    private static void promise18Dirty() {
        RefusePlanner x = twoBinsAndTips();
        x.soil(1);
        check.due("collect(1, 100), the second dirty", x.collect(1, 100), 20 + 5 + 2 + 27);
        check.dueTotals(x, 1, 100, 1, 54, 1);
        check.dueFacts(x, 1, 1, 1, 100, 50, 0, 13, 1, 0);
        check.duePlan(x, 1, 1);
        x.soil(1);
        check.due("collect(1, 100), the only one dirty", x.collect(1, 100), 20 + 2 + 20);
        check.dueTotals(x, 1, 100, 1, 96, 2);
        check.due("bin(1, 6)", x.bin(1, 6), 2);
        check.due("collect(1, 100), clean now", x.collect(1, 100), 20 + 5 + 27);
        check.dueTotals(x, 1, 200, 2, 148, 3);
    }

    private static void promise18PlanIsMadeFirst() {
        RefusePlanner x = Check.withPlaces(2);
        x.setMinutes(1, 2, 1);
        x.addBin(1, 0, 20, 0);
        x.addBin(2, 0, 20, 0);
        x.addBin(1, 0, 1000, 0);
        x.pass(16);
        check.duePlan(x, 0, 0, 2, 1);
        check.due("collect(0, 50)", x.collect(0, 50), 30 + 5 + 5 + 1 + 5 + 30);
        check.duePlan(x, 0);
    }

    private static void promise18Capacities() {
        RefusePlanner x = twoBinsAndTips();
        check.due("collect(1, 50), the least capacity", x.collect(1, 50), 73);
        check.dueTotals(x, 1, 100, 2, 73, 1);
        RefusePlanner y = twoBinsAndTips();
        check.due("collect(1, 5000), the most capacity", y.collect(1, 5000), 57);
        check.dueTotals(y, 1, 200, 1, 57, 1);
    }

    private static void promise19Fetch() {
        RefusePlanner x = Check.withPlaces(1);
        x.setMinutes(0, 1, 12);
        x.addBin(1, 2, 1000, 200);
        x.pass(4);
        check.due("fetch(0, 50)", x.fetch(0, 50), 12 + 5 + 12 + 10);
        // seen 10 * 800 / 4 = 2000; (500 * 3 + 2000) / 4 = 875
        check.dueFacts(x, 0, 1, 2, 750, 875, 4);
        check.dueTotals(x, 2, 50, 1, 39, 1);
        check.due("fetch(0, 5000)", x.fetch(0, 5000), 39);
        check.dueFacts(x, 0, 1, 2, 0, 875, 4);
        check.dueTotals(x, 2, 800, 2, 78, 2);
        check.dueTotals(x, 0, 0, 0, 0, 0);
    }

    /** "Makes a tour to one bin, due or not." */
    private static void promise19NotDue() {
        RefusePlanner x = twoBinsAndTips();
        check.due("fetch(1, 50), the one that is due", x.fetch(1, 50), 20 + 5 + 27);
        check.duePlan(x, 1, 0);
        check.due("fetch(1, 50), not due any more", x.fetch(1, 50), 20 + 5 + 27);
        check.due("fetch(1, 50), not due and empty", x.fetch(1, 50), 20 + 5 + 20);
        check.dueTotals(x, 1, 100, 2, 149, 3);
        check.dueFacts(x, 0, 1, 1, 100, 50, 0);
    }

    private static void promise19Dirty() {
        RefusePlanner x = twoBinsAndTips();
        x.soil(0);
        check.due("fetch(0, 50), dirty", x.fetch(0, 50), 20 + 2 + 20);
        check.dueFacts(x, 0, 1, 1, 100, 50, 0, 13, 1, 0);
        check.dueTotals(x, 1, 0, 0, 42, 1);
    }

    private static void promise20WouldTake() {
        RefusePlanner x = twoBinsAndTips();
        check.due("wouldTake(1, 50)", x.wouldTake(1, 50), 73);
        check.due("wouldTake(1, 199)", x.wouldTake(1, 199), 73);
        check.due("wouldTake(1, 200)", x.wouldTake(1, 200), 57);
        check.due("wouldTake(1, 5000)", x.wouldTake(1, 5000), 57);
        x.soil(0);
        check.due("wouldTake(1, 50), a dirty bin", x.wouldTake(1, 50), 20 + 2 + 5 + 27);
        check.due("collect(1, 50), as it would take", x.collect(1, 50), 54);
    }

    /** "nothing changes". */
    private static void promise20NothingChanges() {
        RefusePlanner x = twoBinsAndTips();
        x.soil(1);
        long before = x.digest();
        check.due("wouldTake(1, 50)", x.wouldTake(1, 50), 54);
        check.due("wouldTake(1, 50) again", x.wouldTake(1, 50), 54);
        check.due("digest() after wouldTake", x.digest(), before);
        check.dueFacts(x, 1, 1, 1, 100, 50, 0, 13, 0, 1);
        check.duePlan(x, 1, 0, 1);
    }

    /** "it does not matter whether today is a holiday". */
    private static void promise20Holiday() {
        RefusePlanner x = twoBinsAndTips();
        x.setHoliday(15, true);
        check.due("wouldTake(1, 50) on a holiday", x.wouldTake(1, 50), 73);
        check.due("wouldTake(0, 50) on a holiday, an empty plan", x.wouldTake(0, 50), 0);
        check.refused(x, "collect(1, 50) on a holiday", Check.STATE, () -> x.collect(1, 50));
    }

    private static void promise20EmptyPlan() {
        RefusePlanner x = twoBinsAndTips();
        check.due("wouldTake(0, 50), no bin of this kind", x.wouldTake(0, 50), 0);
        x.collect(1, 50);
        check.due("wouldTake(1, 5000), none due any more", x.wouldTake(1, 5000), 0);
        check.due("wouldTake(0, 50) on a new object", new RefusePlanner().wouldTake(0, 50), 0);
    }

    private static void promise21Total() {
        RefusePlanner x = Check.withPlaces(1);
        x.addBin(1, 0, 100, 10);
        check.dueTotals(x, 0, 0, 0, 0, 0);
        x.pass(2);
        x.fetch(0, 50);
        check.dueTotals(x, 0, 20, 1, 75, 1);
        x.fetch(0, 50);
        check.dueTotals(x, 0, 20, 1, 140, 2);
        x.pass(6);
        x.fetch(0, 50);
        check.dueTotals(x, 0, 70, 2, 215, 3);
    }

    private static void promise21EveryKindForItself() {
        RefusePlanner x = Check.withPlaces(1);
        for (int kind = 0; kind < 3; kind++) {
            x.addBin(1, kind, 100, 10 + kind);
        }
        x.pass(2);
        x.fetch(0, 50);
        x.fetch(2, 50);
        x.pass(1);
        x.fetch(2, 50);
        check.dueTotals(x, 0, 20, 1, 75, 1);
        check.dueTotals(x, 1, 0, 0, 0, 0);
        check.dueTotals(x, 2, 36, 2, 150, 2);
    }

    private static void promise22Wasted() {
        RefusePlanner x = Check.withPlaces(1);
        x.addBin(1, 0, 10, 6);
        x.addBin(1, 2, 10, 11);
        x.addBin(1, 2, 10, 12);
        x.pass(2);
        check.due("wasted(0)", x.wasted(0), 2L);
        check.due("wasted(1)", x.wasted(1), 0L);
        check.due("wasted(2)", x.wasted(2), 1L + 11 + 2 + 12);
        x.fetch(0, 50);
        check.due("wasted(0) after a tour", x.wasted(0), 2L);
    }

    private static void promise23Error() {
        RefusePlanner x = Check.withPlaces(1);
        x.addBin(1, 0, 100, 20);
        x.addBin(1, 1, 200, 0);
        x.pass(2);
        // 10 expected and 40 there; 20 expected and 0 there
        check.due("error()", x.error(), 50.0 / 300.0);
        x.addBin(1, 2, 33, 0);
        check.due("error()", x.error(), 50.0 / 333.0);
    }

    /** "0 if there are no bins". */
    private static void promise23NoBins() {
        RefusePlanner x = new RefusePlanner();
        check.due("error() on a new object", x.error(), 0.0);
        x.addPlace();
        x.pass(60);
        check.due("error() without bins", x.error(), 0.0);
    }

    private static void promise23LeastAndMost() {
        RefusePlanner x = Check.withPlaces(1);
        x.addBin(1, 0, 10, 0);
        x.addBin(1, 1, 1000, 0);
        check.due("error() of new bins", x.error(), 0.0);
        x.pass(20);
        check.due("error(), all expected full and empty", x.error(), 1.0);
        x.setGrowth(0, 200);
        x.setGrowth(1, 200);
        x.pass(5);
        check.due("error(), all expected full and full", x.error(), 0.0);
        x.fetch(0, 5000);
        check.due("error(), none expected and none there", x.error(), 0.0);
        x.fetch(1, 50);
        check.due("error(), none expected and 950 there", x.error(), 950.0 / 1010.0);
    }

    private static void promise24Digest() {
        RefusePlanner x = Check.withPlaces(3);
        x.setMinutes(0, 1, 11);
        x.setMinutes(0, 2, 12);
        x.setMinutes(3, 0, 13);
        x.setMinutes(2, 1, 14);
        x.setMinutes(1, 3, 15);
        x.setMinutes(2, 3, 16);
        x.setTip(2, 0, true);
        x.setTip(2, 2, true);
        x.setTip(3, 1, true);
        x.setTip(0, 1, false);
        x.addBin(3, 1, 40, 30);
        x.addBin(1, 2, 100, 4);
        x.pass(3);
        x.soil(1);
        x.fetch(0, 50);
        x.setHoliday(3, true);
        // bin 0: seen 10 * 40 / 3 = 133; (20 * 3 + 133) / 4 = 48; the tour is 13 + 5 + 10 + 13
        check.due("digest()", x.digest(), Check.checksum(3,
                4, 11, 12, 13, 14, 15, 16,
                5, 0, 5, 2,
                2, 3, 1, 0, 48, 3, 2, 0, 0, 1, 2, 12, 50, 0, 0, 0, 1,
                0, 0, 0, 0, 0, 40, 1, 41, 1, 50, 0, 0, 0, 0, 0));
        check.due("digest() again", x.digest(), x.digest());
    }

    /** "d becomes d * 31 + x, which wraps around as a 64-bit integer". */
    private static void promise24WrapsAround() {
        BigInteger d = BigInteger.valueOf(197);
        long[] numbers = {5, 1, 7, 0, 0, 0, 0, 0, 0, 0, 0, 0, 0, 0, 0, 0, 0, 0, 0};
        for (long number : numbers) {
            d = d.multiply(BigInteger.valueOf(31)).add(BigInteger.valueOf(number));
        }
        check.due("d has more than 64 bits", d.bitLength() > 64, true);
        RefusePlanner x = new RefusePlanner();
        x.pass(5);
        check.due("digest() wrapped around", x.digest(), d.longValue());
    }

    /** With all the places and bins that there can be, each with numbers of its own. */
    private static void promise24AllPlacesAndBins() {
        RefusePlanner x = Check.full();
        long[] numbers = new long[2 + 45 + 10 + 1 + 16 * 8 + 3 * 5];
        int n = 0;
        numbers[n++] = 0;
        numbers[n++] = 10;
        for (int a = 0; a < 10; a++) {
            for (int b = a + 1; b < 10; b++) {
                numbers[n++] = 10 * a + b;
                x.setMinutes(b, a, 10 * a + b);
            }
        }
        for (int place = 0; place < 10; place++) {
            numbers[n++] = place == 0 || place == 9 ? 7 : 0;
        }
        for (int kind = 0; kind < 3; kind++) {
            x.setTip(9, kind, true);
        }
        numbers[n++] = 16;
        for (int bin = 0; bin < 16; bin++) {
            numbers[n++] = 1 + bin % 9;
            numbers[n++] = bin % 3;
            numbers[n + 1] = 50;
            n += 6;
        }
        check.due("digest() of all places and bins", x.digest(), Check.checksum(numbers));
    }
}
