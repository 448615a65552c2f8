import java.util.function.Supplier;

/**
 * Each sentence of the document that says when a call is refused, in the document's order: the first
 * number that is refused on either side, and the last one that is taken.
 */
public final class RefusedCallsTest {
    private static final Check check = new Check();

    public static void main(String[] args) {
        placesAndDays();
        bins();
        plansAndTours();
        theExceptionNamedFirst();
        aRefusedCallChangesNothing();
        check.end();
    }

    private static void placesAndDays() {
        addPlaceIfThereAreTen();
        setMinutesIfThereIsNoSuchPlace();
        setMinutesIfThePlacesAreTheSame();
        setMinutesIfTheMinutesAreOutOfRange();
        setTipIfThereIsNoSuchPlace();
        setTipIfThereIsNoSuchKind();
        setTipIfItIsTheLastOne();
        setHolidayIfThereIsNoSuchDay();
        passIfTheDaysAreOutOfRange();
        passIfItWouldBeTooLate();
    }

    private static void bins() {
        addBinIfThereIsNoSuchPlace();
        addBinIfThePlaceIsTheDepot();
        addBinIfThereIsNoSuchKind();
        addBinIfTheSizeIsOutOfRange();
        addBinIfTheGrowthIsOutOfRange();
        addBinIfThereAreSixteen();
        setGrowthIfThereIsNoSuchBin();
        setGrowthIfItIsOutOfRange();
        soilIfThereIsNoSuchBin();
        binIfThereIsNoSuchBin();
        binIfThereIsNoSuchFact();
        expectedIfThereIsNoSuchBin();
        expectedIfTheDayIsOutOfRange();
        fullOnIfThereIsNoSuchBin();
    }

    private static void plansAndTours() {
        planSizeIfThereIsNoSuchKind();
        plannedIfThereIsNoSuchKind();
        plannedIfThereIsNoSuchPlaceInThePlan();
        collectIfThereIsNoSuchKind();
        collectIfTheCapacityIsOutOfRange();
        collectIfTodayIsAHoliday();
        fetchIfThereIsNoSuchBin();
        fetchIfTheCapacityIsOutOfRange();
        fetchIfTodayIsAHoliday();
        wouldTakeIfThereIsNoSuchKind();
        wouldTakeIfTheCapacityIsOutOfRange();
        totalIfThereIsNoSuchKind();
        totalIfThereIsNoSuchTotal();
        wastedIfThereIsNoSuchKind();
    }

    /** Sixteen bins, all of which are due. */
    private static RefusePlanner fullAndDue() {
        return Check.onDay(Check.full(), 15);
    }

    private static RefusePlanner fullOnAHoliday() {
        RefusePlanner x = fullAndDue();
        x.setHoliday(15, true);
        return x;
    }

    private static void takesPlaces(String call, Check.Call action) {
        check.takes(0, 9, Check.INDEX, call + ", ten places", () -> Check.full(), action);
        check.takes(0, 3, Check.INDEX, call + ", four places", () -> Check.withPlaces(3), action);
    }

    private static void takesKinds(String call, Supplier<RefusePlanner> fresh, Check.Call action) {
        check.takes(0, 2, Check.INDEX, call, fresh, action);
    }

    private static void takesBins(String call, Check.Call action) {
        check.takes(0, 15, Check.INDEX, call + ", sixteen bins", () -> Check.full(), action);
        check.takes(0, 0, Check.INDEX, call + ", one bin", () -> oneBin(), action);
        check.takes(0, -1, Check.INDEX, call + ", no bins", () -> Check.withPlaces(9), action);
    }

    private static RefusePlanner oneBin() {
        RefusePlanner x = Check.withPlaces(1);
        x.addBin(1, 0, 100, 10);
        return x;
    }

    // ---- places and days

    /** Promise 2: "if there are 10 places". */
    private static void addPlaceIfThereAreTen() {
        RefusePlanner x = Check.withPlaces(8);
        check.due("addPlace(), the tenth place", x.addPlace(), 9);
        check.refused(x, "addPlace(), the eleventh place", Check.STATE, () -> x.addPlace());
        check.refused(x, "addPlace(), again", Check.STATE, () -> x.addPlace());
        check.refused(x, "setMinutes(0, 10, 5)", Check.INDEX, () -> x.setMinutes(0, 10, 5));
    }

    /** Promise 3: "if there is no such place". */
    private static void setMinutesIfThereIsNoSuchPlace() {
        takesPlaces("setMinutes(.., another, 5)", (x, a) -> x.setMinutes(a, a == 0 ? 1 : 0, 5));
        takesPlaces("setMinutes(another, .., 5)", (x, b) -> x.setMinutes(b == 0 ? 1 : 0, b, 5));
        RefusePlanner x = new RefusePlanner();
        check.refused(x, "setMinutes(0, 1, 5), the depot alone", Check.INDEX, () -> x.setMinutes(0, 1, 5));
        check.refused(x, "setMinutes(1, 0, 5), the depot alone", Check.INDEX, () -> x.setMinutes(1, 0, 5));
    }

    /** Promise 3: "if a and b are the same". */
    private static void setMinutesIfThePlacesAreTheSame() {
        RefusePlanner x = Check.withPlaces(9);
        for (int place = 0; place <= 9; place++) {
            int a = place;
            check.refused(x, "setMinutes(" + a + ", " + a + ", 5)", Check.ARGUMENT, () -> x.setMinutes(a, a, 5));
        }
    }

    /** Promise 3: "or minutes is not 1 to 120". */
    private static void setMinutesIfTheMinutesAreOutOfRange() {
        check.takes(1, 120, Check.ARGUMENT, "setMinutes(0, 1, ..)", () -> Check.withPlaces(1),
                (x, minutes) -> x.setMinutes(0, 1, minutes));
        check.takes(1, 120, Check.ARGUMENT, "setMinutes(1, 0, ..)", () -> Check.withPlaces(1),
                (x, minutes) -> x.setMinutes(1, 0, minutes));
    }

    /** Promise 4: "if there is no such place". */
    private static void setTipIfThereIsNoSuchPlace() {
        takesPlaces("setTip(.., 2, true)", (x, place) -> x.setTip(place, 2, true));
        check.takes(0, 0, Check.INDEX, "setTip(.., 2, true), the depot alone", () -> new RefusePlanner(),
                (x, place) -> x.setTip(place, 2, true));
    }

    /** Promise 4: "or kind is not 0 to 2". */
    private static void setTipIfThereIsNoSuchKind() {
        takesKinds("setTip(0, .., true)", () -> new RefusePlanner(), (x, kind) -> x.setTip(0, kind, true));
        takesKinds("setTip(1, .., false)", () -> Check.withPlaces(1), (x, kind) -> x.setTip(1, kind, false));
    }

    /** Promise 4: "if it is the last tip for this kind, and isTip is false". */
    private static void setTipIfItIsTheLastOne() {
        for (int each = 0; each < 3; each++) {
            int kind = each;
            RefusePlanner x = Check.withPlaces(9);
            check.refused(x, "setTip(0, .., false), the last", Check.ARGUMENT, () -> x.setTip(0, kind, false));
            check.due("setTip(0, .., true), the last", x.setTip(0, kind, true), true);
            check.due("setTip(5, .., false), there is none", x.setTip(5, kind, false), false);
            check.due("setTip(9, .., true)", x.setTip(9, kind, true), false);
            x.setTip(4, (kind + 1) % 3, true);
            check.due("setTip(0, .., false), the last but one", x.setTip(0, kind, false), true);
            check.refused(x, "setTip(9, .., false), the last", Check.ARGUMENT, () -> x.setTip(9, kind, false));
            check.due("setTip(0, .., false), there is none", x.setTip(0, kind, false), false);
        }
    }

    /** Promise 5: "if day is not 0 to 399". */
    private static void setHolidayIfThereIsNoSuchDay() {
        check.takes(0, 399, Check.INDEX, "setHoliday(.., true)", () -> new RefusePlanner(),
                (x, day) -> x.setHoliday(day, true));
        check.takes(0, 399, Check.INDEX, "setHoliday(.., false)", () -> new RefusePlanner(),
                (x, day) -> x.setHoliday(day, false));
        check.takes(0, 399, Check.INDEX, "setHoliday(.., true) on day 399",
                () -> Check.onDay(new RefusePlanner(), 399), (x, day) -> x.setHoliday(day, true));
    }

    /** Promise 6: "if days is not 1 to 60". */
    private static void passIfTheDaysAreOutOfRange() {
        check.takes(1, 60, Check.ARGUMENT, "pass(..)", () -> Check.full(), (x, days) -> x.pass(days));
        check.takes(1, 60, Check.ARGUMENT, "pass(..) on day 339",
                () -> Check.onDay(Check.full(), 339), (x, days) -> x.pass(days));
    }

    /** Promise 6: "if it would be later than day 399". */
    private static void passIfItWouldBeTooLate() {
        RefusePlanner x = Check.onDay(oneBin(), 340);
        check.refused(x, "pass(60) on day 340", Check.STATE, () -> x.pass(60));
        check.due("today()", x.today(), 340);
        check.due("pass(59) on day 340", x.pass(59), 59);
        check.due("today()", x.today(), 399);
        check.refused(x, "pass(1) on day 399", Check.STATE, () -> x.pass(1));
        check.refused(x, "pass(60) on day 399", Check.STATE, () -> x.pass(60));
        RefusePlanner y = Check.onDay(new RefusePlanner(), 398);
        check.refused(y, "pass(2) on day 398", Check.STATE, () -> y.pass(2));
        check.due("pass(1) on day 398", y.pass(1), 0);
    }

    // ---- bins

    /** Promise 9: "if there is no such place". */
    private static void addBinIfThereIsNoSuchPlace() {
        check.takes(1, 9, Check.INDEX, "addBin(.., 0, 10, 0)", () -> Check.withPlaces(9),
                (x, place) -> x.addBin(place, 0, 10, 0));
        check.takes(1, 1, Check.INDEX, "addBin(.., 0, 10, 0), two places", () -> Check.withPlaces(1),
                (x, place) -> x.addBin(place, 0, 10, 0));
        RefusePlanner x = new RefusePlanner();
        check.refused(x, "addBin(1, 0, 10, 0), the depot alone", Check.INDEX, () -> x.addBin(1, 0, 10, 0));
        check.refused(x, "addBin(-1, 0, 10, 0)", Check.INDEX, () -> x.addBin(-1, 0, 10, 0));
    }

    /** Promise 9: "it is the depot". */
    private static void addBinIfThePlaceIsTheDepot() {
        RefusePlanner x = Check.withPlaces(1);
        check.refused(x, "addBin(0, 0, 10, 0)", Check.INDEX, () -> x.addBin(0, 0, 10, 0));
        check.due("binCount()", x.binCount(), 0);
    }

    /** Promise 9: "or kind is not 0 to 2". */
    private static void addBinIfThereIsNoSuchKind() {
        takesKinds("addBin(1, .., 10, 0)", () -> Check.withPlaces(1), (x, kind) -> x.addBin(1, kind, 10, 0));
    }

    /** Promise 9: "if size is not 10 to 1000". */
    private static void addBinIfTheSizeIsOutOfRange() {
        check.takes(10, 1000, Check.ARGUMENT, "addBin(1, 0, .., 0)", () -> Check.withPlaces(1),
                (x, size) -> x.addBin(1, 0, size, 0));
    }

    /** Promise 9: "or growth is not 0 to 200". */
    private static void addBinIfTheGrowthIsOutOfRange() {
        check.takes(0, 200, Check.ARGUMENT, "addBin(1, 0, 10, ..)", () -> Check.withPlaces(1),
                (x, growth) -> x.addBin(1, 0, 10, growth));
    }

    /** Promise 9: "if there are 16 bins". */
    private static void addBinIfThereAreSixteen() {
        RefusePlanner x = Check.withPlaces(1);
        for (int bin = 0; bin < 16; bin++) {
            check.due("addBin, the bin before it is " + (bin - 1), x.addBin(1, bin % 3, 10, 0), bin);
        }
        check.refused(x, "addBin, the seventeenth", Check.STATE, () -> x.addBin(1, 0, 10, 0));
        check.refused(x, "addBin, again", Check.STATE, () -> x.addBin(1, 2, 1000, 200));
        check.due("binCount()", x.binCount(), 16);
    }

    /** Promise 10: "if there is no such bin". */
    private static void setGrowthIfThereIsNoSuchBin() {
        takesBins("setGrowth(.., 5)", (x, bin) -> x.setGrowth(bin, 5));
    }

    /** Promise 10: "if growth is not 0 to 200". */
    private static void setGrowthIfItIsOutOfRange() {
        check.takes(0, 200, Check.ARGUMENT, "setGrowth(0, ..)", () -> oneBin(), (x, growth) -> x.setGrowth(0, growth));
    }

    /** Promise 11: "if there is no such bin". */
    private static void soilIfThereIsNoSuchBin() {
        takesBins("soil(..)", (x, bin) -> x.soil(bin));
    }

    /** Promise 13: "if there is no such bin". */
    private static void binIfThereIsNoSuchBin() {
        takesBins("bin(.., 0)", (x, bin) -> x.bin(bin, 0));
        takesBins("bin(.., 7)", (x, bin) -> x.bin(bin, 7));
    }

    /** Promise 13: "or what is not 0 to 7". */
    private static void binIfThereIsNoSuchFact() {
        check.takes(0, 7, Check.INDEX, "bin(0, ..)", () -> oneBin(), (x, what) -> x.bin(0, what));
    }

    /** Promise 14: "if there is no such bin". */
    private static void expectedIfThereIsNoSuchBin() {
        takesBins("expected(.., 0)", (x, bin) -> x.expected(bin, 0));
    }

    /** Promise 14: "if day is less than today, or greater than 999". */
    private static void expectedIfTheDayIsOutOfRange() {
        check.takes(0, 999, Check.ARGUMENT, "expected(0, ..) on day 0", () -> oneBin(),
                (x, day) -> x.expected(0, day));
        check.takes(7, 999, Check.ARGUMENT, "expected(0, ..) on day 7", () -> Check.onDay(oneBin(), 7),
                (x, day) -> x.expected(0, day));
        check.takes(399, 999, Check.ARGUMENT, "expected(0, ..) on day 399", () -> Check.onDay(oneBin(), 399),
                (x, day) -> x.expected(0, day));
    }

    /** Promise 15: "if there is no such bin". */
    private static void fullOnIfThereIsNoSuchBin() {
        takesBins("fullOn(..)", (x, bin) -> x.fullOn(bin));
    }

    // ---- plans and tours

    /** Promise 16: "if kind is not 0 to 2". */
    private static void planSizeIfThereIsNoSuchKind() {
        takesKinds("planSize(..)", () -> new RefusePlanner(), (x, kind) -> x.planSize(kind));
        takesKinds("planSize(..), all are due", () -> fullAndDue(), (x, kind) -> x.planSize(kind));
    }

    /** Promise 17: "if kind is not 0 to 2". */
    private static void plannedIfThereIsNoSuchKind() {
        takesKinds("planned(.., 0)", () -> fullAndDue(), (x, kind) -> x.planned(kind, 0));
    }

    /** Promise 17: "or there is no such place in the plan". */
    private static void plannedIfThereIsNoSuchPlaceInThePlan() {
        // Of sixteen bins six are of kind 0, and five of each other kind.
        check.takes(0, 5, Check.INDEX, "planned(0, ..)", () -> fullAndDue(), (x, index) -> x.planned(0, index));
        check.takes(0, 4, Check.INDEX, "planned(1, ..)", () -> fullAndDue(), (x, index) -> x.planned(1, index));
        check.takes(0, 4, Check.INDEX, "planned(2, ..)", () -> fullAndDue(), (x, index) -> x.planned(2, index));
        check.takes(0, 15, Check.INDEX, "planned(0, ..), all sixteen", () -> sixteenOfOneKind(),
                (x, index) -> x.planned(0, index));
        check.takes(0, -1, Check.INDEX, "planned(0, ..), none due", () -> Check.full(),
                (x, index) -> x.planned(0, index));
        check.takes(0, -1, Check.INDEX, "planned(0, ..), no bins", () -> new RefusePlanner(),
                (x, index) -> x.planned(0, index));
    }

    private static RefusePlanner sixteenOfOneKind() {
        RefusePlanner x = Check.withPlaces(9);
        for (int i = 0; i < 16; i++) {
            x.addBin(1 + i % 9, 0, 100, 10);
        }
        return Check.onDay(x, 15);
    }

    /** Promise 18: "if kind is not 0 to 2". */
    private static void collectIfThereIsNoSuchKind() {
        takesKinds("collect(.., 100)", () -> fullAndDue(), (x, kind) -> x.collect(kind, 100));
    }

    /** Promise 18: "if capacity is not 50 to 5000". */
    private static void collectIfTheCapacityIsOutOfRange() {
        check.takes(50, 5000, Check.ARGUMENT, "collect(0, ..)", () -> fullAndDue(),
                (x, capacity) -> x.collect(0, capacity));
        check.takes(50, 5000, Check.ARGUMENT, "collect(0, ..), an empty plan", () -> new RefusePlanner(),
                (x, capacity) -> x.collect(0, capacity));
    }

    /** Promise 18: "if today is a holiday". */
    private static void collectIfTodayIsAHoliday() {
        RefusePlanner x = fullOnAHoliday();
        check.refused(x, "collect(0, 50) on a holiday", Check.STATE, () -> x.collect(0, 50));
        check.refused(x, "collect(2, 5000) on a holiday", Check.STATE, () -> x.collect(2, 5000));
        x.setHoliday(15, false);
        x.setHoliday(14, true);
        x.setHoliday(16, true);
        check.taken("collect(0, 50) between holidays", () -> x.collect(0, 50));
        RefusePlanner y = new RefusePlanner();
        y.setHoliday(0, true);
        check.refused(y, "collect(0, 50) on a holiday, an empty plan", Check.STATE, () -> y.collect(0, 50));
        RefusePlanner z = Check.onDay(Check.full(), 399);
        z.setHoliday(399, true);
        check.refused(z, "collect(0, 50) on day 399, a holiday", Check.STATE, () -> z.collect(0, 50));
        z.setHoliday(399, false);
        check.taken("collect(0, 50) on day 399", () -> z.collect(0, 50));
    }

    /** Promise 19: "if there is no such bin". */
    private static void fetchIfThereIsNoSuchBin() {
        takesBins("fetch(.., 100)", (x, bin) -> x.fetch(bin, 100));
    }

    /** Promise 19: "if capacity is not 50 to 5000". */
    private static void fetchIfTheCapacityIsOutOfRange() {
        check.takes(50, 5000, Check.ARGUMENT, "fetch(0, ..)", () -> fullAndDue(),
                (x, capacity) -> x.fetch(0, capacity));
    }

    /** Promise 19: "if today is a holiday". */
    private static void fetchIfTodayIsAHoliday() {
        RefusePlanner x = fullOnAHoliday();
        check.refused(x, "fetch(0, 50) on a holiday", Check.STATE, () -> x.fetch(0, 50));
        check.refused(x, "fetch(15, 5000) on a holiday", Check.STATE, () -> x.fetch(15, 5000));
        x.soil(3);
        check.refused(x, "fetch(3, 50) on a holiday, a dirty bin", Check.STATE, () -> x.fetch(3, 50));
        x.setHoliday(15, false);
        x.setHoliday(14, true);
        x.setHoliday(16, true);
        check.taken("fetch(0, 50) between holidays", () -> x.fetch(0, 50));
    }

    /** Promise 20: "if kind is not 0 to 2". */
    private static void wouldTakeIfThereIsNoSuchKind() {
        takesKinds("wouldTake(.., 100)", () -> fullAndDue(), (x, kind) -> x.wouldTake(kind, 100));
    }

    /** Promise 20: "if capacity is not 50 to 5000". */
    private static void wouldTakeIfTheCapacityIsOutOfRange() {
        check.takes(50, 5000, Check.ARGUMENT, "wouldTake(0, ..)", () -> fullAndDue(),
                (x, capacity) -> x.wouldTake(0, capacity));
        check.takes(50, 5000, Check.ARGUMENT, "wouldTake(0, ..), an empty plan", () -> new RefusePlanner(),
                (x, capacity) -> x.wouldTake(0, capacity));
        check.takes(50, 5000, Check.ARGUMENT, "wouldTake(0, ..) on a holiday", () -> fullOnAHoliday(),
                (x, capacity) -> x.wouldTake(0, capacity));
    }

    /** Promise 21: "if kind is not 0 to 2". */
    private static void totalIfThereIsNoSuchKind() {
        for (int each = 0; each < 4; each++) {
            int what = each;
            takesKinds("total(.., " + what + ")", () -> fullAndDue(), (x, kind) -> x.total(kind, what));
        }
    }

    /** Promise 21: "or what is not 0 to 3". */
    private static void totalIfThereIsNoSuchTotal() {
        for (int each = 0; each < 3; each++) {
            int kind = each;
            check.takes(0, 3, Check.INDEX, "total(" + kind + ", ..)", () -> fullAndDue(),
                    (x, what) -> x.total(kind, what));
        }
    }

    /** Promise 22: "if kind is not 0 to 2". */
    private static void wastedIfThereIsNoSuchKind() {
        takesKinds("wasted(..)", () -> fullAndDue(), (x, kind) -> x.wasted(kind));
    }

    // ---- the two sentences of the terms on exceptions

    /** Terms: "If several exceptions apply, the one that is named first is thrown." */
    private static void theExceptionNamedFirst() {
        indexAheadOfArgument();
        argumentAheadOfState();
        indexAheadOfState();
    }

    private static void indexAheadOfArgument() {
        RefusePlanner x = fullAndDue();
        check.refused(x, "setMinutes(10, 10, 5)", Check.INDEX, () -> x.setMinutes(10, 10, 5));
        check.refused(x, "setMinutes(-1, -1, 121)", Check.INDEX, () -> x.setMinutes(-1, -1, 121));
        check.refused(x, "setMinutes(10, 0, 0)", Check.INDEX, () -> x.setMinutes(10, 0, 0));
        check.refused(x, "setMinutes(0, 10, 121)", Check.INDEX, () -> x.setMinutes(0, 10, 121));
        check.refused(x, "setTip(10, 0, false)", Check.INDEX, () -> x.setTip(10, 0, false));
        check.refused(x, "setTip(0, 3, false)", Check.INDEX, () -> x.setTip(0, 3, false));
        check.refused(x, "setGrowth(16, 201)", Check.INDEX, () -> x.setGrowth(16, 201));
        check.refused(x, "setGrowth(-1, -1)", Check.INDEX, () -> x.setGrowth(-1, -1));
        check.refused(x, "expected(16, 14)", Check.INDEX, () -> x.expected(16, 14));
        check.refused(x, "expected(-1, 1000)", Check.INDEX, () -> x.expected(-1, 1000));
        check.refused(x, "wouldTake(3, 49)", Check.INDEX, () -> x.wouldTake(3, 49));
        check.refused(x, "wouldTake(-1, 5001)", Check.INDEX, () -> x.wouldTake(-1, 5001));
        check.refused(x, "collect(3, 49)", Check.INDEX, () -> x.collect(3, 49));
        check.refused(x, "fetch(16, 5001)", Check.INDEX, () -> x.fetch(16, 5001));
        RefusePlanner y = Check.withPlaces(1);
        check.refused(y, "addBin(0, 0, 9, 0)", Check.INDEX, () -> y.addBin(0, 0, 9, 0));
        check.refused(y, "addBin(2, 0, 10, 201)", Check.INDEX, () -> y.addBin(2, 0, 10, 201));
        check.refused(y, "addBin(1, 3, 1001, 0)", Check.INDEX, () -> y.addBin(1, 3, 1001, 0));
        check.refused(y, "addBin(1, -1, 10, -1)", Check.INDEX, () -> y.addBin(1, -1, 10, -1));
    }

    private static void argumentAheadOfState() {
        RefusePlanner x = Check.onDay(Check.full(), 399);
        x.setHoliday(399, true);
        check.refused(x, "pass(0) on day 399", Check.ARGUMENT, () -> x.pass(0));
        check.refused(x, "pass(61) on day 399", Check.ARGUMENT, () -> x.pass(61));
        check.refused(x, "addBin(1, 0, 9, 0), the seventeenth", Check.ARGUMENT, () -> x.addBin(1, 0, 9, 0));
        check.refused(x, "addBin(1, 0, 10, 201), the seventeenth", Check.ARGUMENT, () -> x.addBin(1, 0, 10, 201));
        check.refused(x, "collect(0, 49) on a holiday", Check.ARGUMENT, () -> x.collect(0, 49));
        check.refused(x, "collect(0, 5001) on a holiday", Check.ARGUMENT, () -> x.collect(0, 5001));
        check.refused(x, "fetch(0, 49) on a holiday", Check.ARGUMENT, () -> x.fetch(0, 49));
        check.refused(x, "fetch(0, 5001) on a holiday", Check.ARGUMENT, () -> x.fetch(0, 5001));
    }

    private static void indexAheadOfState() {
        RefusePlanner x = fullOnAHoliday();
        check.refused(x, "addBin(0, 0, 10, 0), the seventeenth", Check.INDEX, () -> x.addBin(0, 0, 10, 0));
        check.refused(x, "addBin(1, 3, 10, 0), the seventeenth", Check.INDEX, () -> x.addBin(1, 3, 10, 0));
        check.refused(x, "addBin(10, 0, 9, 0), the seventeenth", Check.INDEX, () -> x.addBin(10, 0, 9, 0));
        check.refused(x, "collect(3, 100) on a holiday", Check.INDEX, () -> x.collect(3, 100));
        check.refused(x, "collect(-1, 49) on a holiday", Check.INDEX, () -> x.collect(-1, 49));
        check.refused(x, "fetch(16, 100) on a holiday", Check.INDEX, () -> x.fetch(16, 100));
        check.refused(x, "fetch(-1, 49) on a holiday", Check.INDEX, () -> x.fetch(-1, 49));
    }

    /**
     * Terms: "A method that throws an exception changes nothing." What digest() does not tell (the
     * growths, the sizes, the holidays) is held against a twin that had no refused call.
     */
    private static void aRefusedCallChangesNothing() {
        RefusePlanner x = twin();
        refuseAll(x);
        RefusePlanner y = twin();
        check.due("nextWorkday() of twins", x.nextWorkday(), y.nextWorkday());
        check.due("error() of twins", x.error(), y.error());
        for (int bin = 0; bin < 3; bin++) {
            check.due("fullOn of twins", x.fullOn(bin), y.fullOn(bin));
            check.due("expected of twins", x.expected(bin, 999), y.expected(bin, 999));
            check.due("setGrowth of twins", x.setGrowth(bin, 2), y.setGrowth(bin, 2));
        }
        for (int day = 0; day < 400; day++) {
            check.due("setHoliday of twins", x.setHoliday(day, false), y.setHoliday(day, false));
        }
        check.due("collect of twins", x.collect(0, 50), y.collect(0, 50));
        check.due("pass of twins", x.pass(60), y.pass(60));
        check.due("digest() of twins", x.digest(), y.digest());
    }

    /** A day on which every call of refuseAll is refused. */
    private static RefusePlanner twin() {
        RefusePlanner x = Check.withPlaces(2);
        x.setMinutes(0, 1, 12);
        x.addBin(1, 0, 30, 7);
        x.addBin(2, 0, 999, 200);
        x.addBin(2, 1, 11, 0);
        x.soil(1);
        x.setHoliday(17, true);
        x.setHoliday(20, true);
        return Check.onDay(x, 17);
    }

    private static void refuseAll(RefusePlanner x) {
        check.refused(x, "setMinutes(0, 3, 7)", Check.INDEX, () -> x.setMinutes(0, 3, 7));
        check.refused(x, "setMinutes(0, 1, 121)", Check.ARGUMENT, () -> x.setMinutes(0, 1, 121));
        check.refused(x, "setTip(3, 0, true)", Check.INDEX, () -> x.setTip(3, 0, true));
        check.refused(x, "setTip(1, 3, true)", Check.INDEX, () -> x.setTip(1, 3, true));
        check.refused(x, "setTip(0, 0, false)", Check.ARGUMENT, () -> x.setTip(0, 0, false));
        check.refused(x, "setHoliday(-1, true)", Check.INDEX, () -> x.setHoliday(-1, true));
        check.refused(x, "setHoliday(400, true)", Check.INDEX, () -> x.setHoliday(400, true));
        check.refused(x, "pass(0)", Check.ARGUMENT, () -> x.pass(0));
        check.refused(x, "pass(61)", Check.ARGUMENT, () -> x.pass(61));
        check.refused(x, "addBin(0, 0, 50, 5)", Check.INDEX, () -> x.addBin(0, 0, 50, 5));
        check.refused(x, "addBin(1, 0, 50, 201)", Check.ARGUMENT, () -> x.addBin(1, 0, 50, 201));
        check.refused(x, "setGrowth(3, 9)", Check.INDEX, () -> x.setGrowth(3, 9));
        check.refused(x, "setGrowth(0, 201)", Check.ARGUMENT, () -> x.setGrowth(0, 201));
        check.refused(x, "setGrowth(1, -1)", Check.ARGUMENT, () -> x.setGrowth(1, -1));
        check.refused(x, "soil(3)", Check.INDEX, () -> x.soil(3));
        check.refused(x, "collect(0, 49)", Check.ARGUMENT, () -> x.collect(0, 49));
        check.refused(x, "collect(0, 50)", Check.STATE, () -> x.collect(0, 50));
        check.refused(x, "fetch(1, 5001)", Check.ARGUMENT, () -> x.fetch(1, 5001));
        check.refused(x, "fetch(1, 50)", Check.STATE, () -> x.fetch(1, 50));
        check.refused(x, "wouldTake(0, 49)", Check.ARGUMENT, () -> x.wouldTake(0, 49));
    }
}
