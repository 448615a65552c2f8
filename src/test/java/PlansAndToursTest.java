/** Promises 16 to 24. */
public final class PlansAndToursTest {
    private static final Class<IndexOutOfBoundsException> INDEX = IndexOutOfBoundsException.class;
    private static final Class<IllegalArgumentException> ARGUMENT = IllegalArgumentException.class;
    private static final Class<IllegalStateException> STATE = IllegalStateException.class;
    private static final Check check = new Check();

    public static void main(String[] args) {
        promise16PlanSize();
        promise16NextWorkday();
        promise16LastDay();
        promise17Planned();
        promise17Ties();
        promise18Collect();
        promise18Refusals();
        promise18Dirty();
        promise18EmptyBins();
        promise18OneLitre();
        promise18TipHere();
        promise18PlanIsMadeFirst();
        promise19Fetch();
        promise19Refusals();
        promise20WouldTake();
        promise21Total();
        promise22Wasted();
        promise23Error();
        promise24Digest();
        check.end();
    }

    private static void duePlan(RefusePlanner x, int kind, int... bins) {
        check.due("planSize(" + kind + ")", x.planSize(kind), bins.length);
        for (int i = 0; i < bins.length; i++) {
            check.due("planned(" + kind + ", " + i + ")", x.planned(kind, i), bins[i]);
        }
        check.refused(x, "planned behind the plan", INDEX, () -> x.planned(kind, bins.length));
    }

    private static void dueTotals(RefusePlanner x, int kind, long... totals) {
        for (int what = 0; what < totals.length; what++) {
            check.due("total(" + kind + ", " + what + ")", x.total(kind, what), totals[what]);
        }
    }

    /**
     * Two bins of 100 litres at place 1, full on day 15, when they are due. Place 2 has the tip
     * nearest to them, place 3 the one that lies best on the way home.
     */
    private static RefusePlanner twoBinsAndTips() {
        RefusePlanner x = Check.withPlaces(3);
        x.setMinutes(0, 1, 20);
        x.setMinutes(1, 2, 3);
        x.setMinutes(2, 0, 100);
        x.setMinutes(1, 3, 8);
        x.setMinutes(3, 0, 9);
        x.setTip(2, 1, true);
        x.setTip(3, 1, true);
        x.addBin(1, 1, 100, 50);
        x.addBin(1, 1, 100, 50);
        x.pass(15);
        return x;
    }

    private static void promise16PlanSize() {
        RefusePlanner x = Check.withPlaces(1);
        x.addBin(1, 1, 100, 0);
        x.addBin(1, 2, 100, 0);
        x.addBin(1, 1, 101, 0);
        x.pass(14);
        duePlan(x, 1);
        x.pass(1);
        duePlan(x, 0);
        duePlan(x, 1, 0);
        duePlan(x, 2, 1);
        x.pass(1);
        duePlan(x, 1, 0, 2);
        check.refused(x, "planSize(3)", INDEX, () -> x.planSize(3));
        check.refused(x, "planSize(-1)", INDEX, () -> x.planSize(-1));
    }

    private static void promise16NextWorkday() {
        RefusePlanner x = Check.withPlaces(1);
        x.addBin(1, 0, 100, 0);
        x.pass(14);
        for (int day = 15; day <= 18; day++) {
            x.setHoliday(day, true);
        }
        check.due("planSize(0), 95 litres on the next workday", x.planSize(0), 0);
        x.setHoliday(19, true);
        check.due("planSize(0), full on the next workday", x.planSize(0), 1);
        x.setHoliday(16, false);
        check.due("planSize(0), a workday between", x.planSize(0), 0);
    }

    private static void promise16LastDay() {
        RefusePlanner x = Check.withPlaces(1);
        for (int i = 0; i < 6; i++) {
            x.pass(60);
        }
        x.pass(38);
        x.addBin(1, 0, 10, 200);
        x.pass(1);
        x.fetch(0, 50);
        // seen 100; (5 * 3 + 100) / 4 = 28: 2 litres on day 400
        check.due("planSize(0) on day 399", x.planSize(0), 0);
        check.due("expected(0, 400)", x.expected(0, 400), 2);
    }

    private static void promise17Planned() {
        RefusePlanner x = Check.withPlaces(4);
        x.setMinutes(0, 1, 50);
        x.setMinutes(0, 2, 40);
        x.setMinutes(0, 3, 10);
        x.setMinutes(0, 4, 20);
        x.setMinutes(3, 4, 30);
        x.setMinutes(3, 1, 5);
        x.setMinutes(3, 2, 31);
        x.setMinutes(1, 2, 60);
        x.setMinutes(1, 4, 59);
        x.setMinutes(4, 2, 1);
        for (int place = 1; place <= 4; place++) {
            x.addBin(place, 0, 20, 0);
        }
        x.addBin(1, 1, 20, 0);
        x.pass(15);
        // from the depot to 3, from there to 1 (5), from there to 4 (59), then 2
        duePlan(x, 0, 2, 0, 3, 1);
        duePlan(x, 1, 4);
        duePlan(x, 2);
        check.due("planned(1, 0)", x.planned(1, 0), 4);
        check.due("planned(0, 0), straight after", x.planned(0, 0), 2);
        check.due("planned(0, 3)", x.planned(0, 3), 1);
        check.refused(x, "planned(0, 4)", INDEX, () -> x.planned(0, 4));
        check.refused(x, "planned(0, MAX)", INDEX, () -> x.planned(0, Integer.MAX_VALUE));
        check.refused(x, "planned(0, -1)", INDEX, () -> x.planned(0, -1));
        check.refused(x, "planned(3, 0)", INDEX, () -> x.planned(3, 0));
        check.refused(x, "planned(-1, 0)", INDEX, () -> x.planned(-1, 0));
        check.refused(x, "planned(0, MIN)", INDEX, () -> x.planned(0, Integer.MIN_VALUE));
    }

    private static void promise17Ties() {
        RefusePlanner x = Check.withPlaces(3);
        x.addBin(1, 0, 20, 0);
        x.addBin(2, 0, 20, 0);
        x.addBin(3, 0, 20, 0);
        x.addBin(1, 0, 20, 0);
        x.setMinutes(0, 3, 29);
        x.pass(15);
        // bin 2 first; then 0, 1 and 3 are all 30 minutes off; then 3 stands where 0 stands
        duePlan(x, 0, 2, 0, 3, 1);
        x.setMinutes(0, 3, 30);
        duePlan(x, 0, 0, 3, 1, 2);
    }

    private static void promise18Collect() {
        RefusePlanner x = twoBinsAndTips();
        // 20 there, 5; 3 + 10 + 3 over the tip at 2, 5; 8 + 10 + 9 over the tip at 3
        check.due("wouldTake(1, 199)", x.wouldTake(1, 199), 73);
        check.due("collect(1, 199)", x.collect(1, 199), 73);
        dueTotals(x, 1, 200, 2, 73, 1);
        check.due("bin(0, 2)", x.bin(0, 2), 0);
        check.due("bin(1, 2)", x.bin(1, 2), 0);
        // seen 10 * 100 / 15 = 66; (50 * 3 + 66) / 4 = 54
        check.due("bin(1, 3)", x.bin(1, 3), 54);
        check.due("bin(1, 4)", x.bin(1, 4), 15);

        RefusePlanner room = twoBinsAndTips();
        check.due("collect(1, 200), both have room", room.collect(1, 200), 57);
        dueTotals(room, 1, 200, 1, 57, 1);

        RefusePlanner small = twoBinsAndTips();
        check.due("collect(1, 60), neither has room", small.collect(1, 60), 73);
        dueTotals(small, 1, 120, 2, 73, 1);
        check.due("bin(0, 2)", small.bin(0, 2), 40);
        check.due("bin(1, 2)", small.bin(1, 2), 40);
        check.due("bin(1, 3)", small.bin(1, 3), 54);
        check.due("collect(1, 60) again, nothing due", small.collect(1, 60), 0);
        dueTotals(small, 1, 120, 2, 73, 1);
        small.setTip(0, 1, false);
        small.setTip(3, 1, false);
        small.setMinutes(0, 1, 30);
        check.due("fetch(0, 60) by the only tip", small.fetch(0, 60), 30 + 5 + 3 + 10 + 100);
    }

    private static void promise18Refusals() {
        RefusePlanner x = twoBinsAndTips();
        check.refused(x, "collect(3, 100)", INDEX, () -> x.collect(3, 100));
        check.refused(x, "collect(-1, 49)", INDEX, () -> x.collect(-1, 49));
        check.refused(x, "collect(1, 49)", ARGUMENT, () -> x.collect(1, 49));
        check.refused(x, "collect(1, 5001)", ARGUMENT, () -> x.collect(1, 5001));
        x.setHoliday(15, true);
        check.refused(x, "collect(1, 100) on a holiday", STATE, () -> x.collect(1, 100));
        check.refused(x, "collect(0, 100) on a holiday", STATE, () -> x.collect(0, 100));
        check.refused(x, "collect(1, 49) on a holiday", ARGUMENT, () -> x.collect(1, 49));
        check.refused(x, "collect(3, 49) on a holiday", INDEX, () -> x.collect(3, 49));
        x.setHoliday(15, false);
        long before = x.digest();
        check.due("collect(0, 50), an empty plan", x.collect(0, 50), 0);
        check.due("digest() after an empty plan", x.digest(), before);
        check.due("collect(1, 5000)", x.collect(1, 5000), 57);
    }

    private static void promise18Dirty() {
        RefusePlanner x = twoBinsAndTips();
        x.soil(1);
        check.due("collect(1, 100), the second dirty", x.collect(1, 100), 20 + 5 + 2 + 27);
        dueTotals(x, 1, 100, 1, 54, 1);
        check.due("bin(1, 2)", x.bin(1, 2), 100);
        check.due("bin(1, 3)", x.bin(1, 3), 50);
        check.due("bin(1, 4)", x.bin(1, 4), 0);
        check.due("bin(1, 6)", x.bin(1, 6), 1);
        check.due("bin(1, 7)", x.bin(1, 7), 0);
        duePlan(x, 1, 1);
        x.soil(1);
        check.due("collect(1, 100), the only one dirty", x.collect(1, 100), 20 + 2 + 20);
        dueTotals(x, 1, 100, 1, 96, 2);
        check.due("bin(1, 6)", x.bin(1, 6), 2);
        check.due("collect(1, 100), clean now", x.collect(1, 100), 20 + 5 + 27);
        dueTotals(x, 1, 200, 2, 148, 3);
    }

    private static void promise18EmptyBins() {
        RefusePlanner x = Check.withPlaces(1);
        x.addBin(1, 2, 100, 50);
        x.addBin(1, 2, 100, 0);
        x.pass(15);
        // The lorry is full at the second bin, which is empty, so there is no need for a tip.
        check.due("collect(2, 100)", x.collect(2, 100), 30 + 5 + 5 + 10 + 30);
        dueTotals(x, 2, 100, 1, 80, 1);
        check.due("bin(1, 3)", x.bin(1, 3), 37);
        check.due("bin(1, 4)", x.bin(1, 4), 15);
        check.due("fetch(1, 50), an empty lorry home", x.fetch(1, 50), 30 + 5 + 30);
        dueTotals(x, 2, 100, 1, 145, 2);
    }

    private static void promise18OneLitre() {
        RefusePlanner x = Check.withPlaces(1);
        x.addBin(1, 0, 20, 0);
        x.addBin(1, 0, 100, 50);
        x.pass(14);
        x.setGrowth(0, 1);
        x.pass(1);
        // One litre is a load: with 99 litres of room left, 100 have none.
        check.due("collect(0, 100)", x.collect(0, 100), 30 + 5 + 40 + 30 + 5 + 10 + 30);
        dueTotals(x, 0, 101, 2, 150, 1);
        x.pass(1);
        check.due("fetch(0, 50), one litre home", x.fetch(0, 50), 30 + 5 + 10 + 30);
        dueTotals(x, 0, 102, 3, 225, 2);
    }

    private static void promise18TipHere() {
        RefusePlanner x = Check.withPlaces(1);
        x.setTip(1, 0, true);
        x.addBin(1, 0, 100, 50);
        x.addBin(1, 0, 100, 50);
        x.pass(15);
        check.due("collect(0, 150), a tip here", x.collect(0, 150), 30 + 5 + 10 + 5 + 10 + 30);
        dueTotals(x, 0, 200, 2, 90, 1);
    }

    private static void promise18PlanIsMadeFirst() {
        RefusePlanner x = Check.withPlaces(2);
        x.setMinutes(1, 2, 1);
        x.addBin(1, 0, 20, 0);
        x.addBin(2, 0, 20, 0);
        x.addBin(1, 0, 1000, 0);
        x.pass(16);
        duePlan(x, 0, 0, 2, 1);
        check.due("collect(0, 50)", x.collect(0, 50), 30 + 5 + 5 + 1 + 5 + 30);
        duePlan(x, 0);
    }

    private static void promise19Fetch() {
        RefusePlanner x = Check.withPlaces(1);
        x.setMinutes(0, 1, 12);
        x.addBin(1, 2, 1000, 200);
        check.due("fetch(0, 50), empty and not due", x.fetch(0, 50), 29);
        dueTotals(x, 2, 0, 0, 29, 1);
        x.pass(4);
        check.due("fetch(0, 50)", x.fetch(0, 50), 39);
        check.due("bin(0, 2)", x.bin(0, 2), 750);
        // seen 10 * 800 / 4 = 2000; (500 * 3 + 2000) / 4 = 875
        check.due("bin(0, 3)", x.bin(0, 3), 875);
        check.due("bin(0, 4)", x.bin(0, 4), 4);
        dueTotals(x, 2, 50, 1, 68, 2);
        check.due("fetch(0, 5000)", x.fetch(0, 5000), 39);
        check.due("bin(0, 2)", x.bin(0, 2), 0);
        check.due("bin(0, 3), no days", x.bin(0, 3), 875);
        dueTotals(x, 2, 800, 2, 107, 3);
        dueTotals(x, 0, 0, 0, 0, 0);
        x.soil(0);
        check.due("fetch(0, 50), dirty", x.fetch(0, 50), 26);
        check.due("bin(0, 6)", x.bin(0, 6), 1);
        dueTotals(x, 2, 800, 2, 133, 4);
    }

    private static void promise19Refusals() {
        RefusePlanner x = twoBinsAndTips();
        check.refused(x, "fetch(2, 100)", INDEX, () -> x.fetch(2, 100));
        check.refused(x, "fetch(-1, 49)", INDEX, () -> x.fetch(-1, 49));
        check.refused(x, "fetch(0, 49)", ARGUMENT, () -> x.fetch(0, 49));
        check.refused(x, "fetch(0, 5001)", ARGUMENT, () -> x.fetch(0, 5001));
        x.setHoliday(15, true);
        check.refused(x, "fetch(0, 100) on a holiday", STATE, () -> x.fetch(0, 100));
        check.refused(x, "fetch(0, 49) on a holiday", ARGUMENT, () -> x.fetch(0, 49));
        check.refused(x, "fetch(2, 100) on a holiday", INDEX, () -> x.fetch(2, 100));
    }

    private static void promise20WouldTake() {
        RefusePlanner x = twoBinsAndTips();
        x.soil(0);
        x.setHoliday(15, true);
        long before = x.digest();
        check.due("wouldTake(1, 50)", x.wouldTake(1, 50), 20 + 2 + 5 + 27);
        check.due("wouldTake(1, 50) again", x.wouldTake(1, 50), 54);
        check.due("wouldTake(1, 5000)", x.wouldTake(1, 5000), 54);
        check.due("wouldTake(0, 50), an empty plan", x.wouldTake(0, 50), 0);
        check.due("digest() after wouldTake", x.digest(), before);
        check.refused(x, "wouldTake(3, 49)", INDEX, () -> x.wouldTake(3, 49));
        check.refused(x, "wouldTake(-1, 100)", INDEX, () -> x.wouldTake(-1, 100));
        check.refused(x, "wouldTake(1, 49)", ARGUMENT, () -> x.wouldTake(1, 49));
        check.refused(x, "wouldTake(1, 5001)", ARGUMENT, () -> x.wouldTake(1, 5001));
    }

    private static void promise21Total() {
        RefusePlanner x = Check.withPlaces(1);
        for (int kind = 0; kind < 3; kind++) {
            x.addBin(1, kind, 100, 10 + kind);
        }
        x.pass(2);
        x.fetch(0, 50);
        x.fetch(2, 50);
        x.pass(1);
        x.fetch(2, 50);
        dueTotals(x, 0, 20, 1, 75, 1);
        dueTotals(x, 1, 0, 0, 0, 0);
        dueTotals(x, 2, 36, 2, 150, 2);
        check.refused(x, "total(0, 4)", INDEX, () -> x.total(0, 4));
        check.refused(x, "total(0, 5)", INDEX, () -> x.total(0, 5));
        check.refused(x, "total(2, MAX)", INDEX, () -> x.total(2, Integer.MAX_VALUE));
        check.refused(x, "total(0, -1)", INDEX, () -> x.total(0, -1));
        check.refused(x, "total(3, 0)", INDEX, () -> x.total(3, 0));
        check.refused(x, "total(-1, 5)", INDEX, () -> x.total(-1, 5));
    }

    private static void promise22Wasted() {
        RefusePlanner x = Check.withPlaces(1);
        x.addBin(1, 0, 10, 6);
        x.addBin(1, 2, 10, 11);
        x.addBin(1, 2, 10, 12);
        x.pass(2);
        check.due("wasted(0)", x.wasted(0), 2L);
        check.due("wasted(1)", x.wasted(1), 0L);
        check.due("wasted(2)", x.wasted(2), 1L + 11 + 2 + 12);
        x.fetch(0, 50);
        check.due("wasted(0) after a tour", x.wasted(0), 2L);
        check.refused(x, "wasted(3)", INDEX, () -> x.wasted(3));
        check.refused(x, "wasted(-1)", INDEX, () -> x.wasted(-1));
    }

    private static void promise23Error() {
        RefusePlanner x = Check.withPlaces(1);
        check.due("error() without bins", x.error(), 0.0);
        x.addBin(1, 0, 100, 20);
        check.due("error() of a new bin", x.error(), 0.0);
        x.addBin(1, 1, 200, 0);
        x.pass(2);
        // 10 expected and 40 there; 20 expected and 0 there
        check.due("error()", x.error(), 50.0 / 300.0);
        x.addBin(1, 2, 33, 0);
        check.due("error()", x.error(), 50.0 / 333.0);
    }

    private static void promise24Digest() {
        RefusePlanner x = Check.withPlaces(3);
        x.setMinutes(0, 1, 11);
        x.setMinutes(0, 2, 12);
        x.setMinutes(3, 0, 13);
        x.setMinutes(2, 1, 14);
        x.setMinutes(1, 3, 15);
        x.setMinutes(2, 3, 16);
        x.setTip(2, 0, true);
        x.setTip(2, 2, true);
        x.setTip(3, 1, true);
        x.setTip(0, 1, false);
        x.addBin(3, 1, 40, 30);
        x.addBin(1, 2, 100, 4);
        x.pass(3);
        x.soil(1);
        x.fetch(0, 50);
        x.setHoliday(3, true);
        // bin 0: seen 10 * 40 / 3 = 133; (20 * 3 + 133) / 4 = 48; the tour is 13 + 5 + 10 + 13
        check.due("digest()", x.digest(), Check.checksum(3,
                4, 11, 12, 13, 14, 15, 16,
                5, 0, 5, 2,
                2, 3, 1, 0, 48, 3, 2, 0, 0, 1, 2, 12, 50, 0, 0, 0, 1,
                0, 0, 0, 0, 0, 40, 1, 41, 1, 50, 0, 0, 0, 0, 0));
        check.due("digest() again", x.digest(), x.digest());
    }
}
