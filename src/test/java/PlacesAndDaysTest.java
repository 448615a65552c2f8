/** Promises 1 to 8: what the calls answer. What they refuse is tested in RefusedCallsTest. */
public final class PlacesAndDaysTest {
    private static final Check check = new Check();

    public static void main(String[] args) {
        promise1NewObject();
        promise1NoHolidays();
        promise2AddPlace();
        promise3SetMinutes();
        promise4SetTip();
        promise5SetHoliday();
        promise5DaysGoneBy();
        promise6Overflows();
        promise6OneAfterTheOther();
        promise6NoBins();
        promise6SixteenBins();
        promise7Today();
        promise8NextWorkday();
        promise8TodayDoesNotCount();
        promise8LastDays();
        check.end();
    }

    private static void promise1NewObject() {
        RefusePlanner x = new RefusePlanner();
        check.due("new: today()", x.today(), 0);
        check.due("new: binCount()", x.binCount(), 0);
        check.due("new: error()", x.error(), 0.0);
        for (int kind = 0; kind < 3; kind++) {
            check.due("new: planSize", x.planSize(kind), 0);
            check.due("new: wasted", x.wasted(kind), 0L);
            check.dueTotals(x, kind, 0, 0, 0, 0);
            check.due("new: the depot has a tip", x.setTip(0, kind, true), true);
        }
        check.due("new: digest()", x.digest(),
                Check.checksum(0, 1, 7, 0, 0, 0, 0, 0, 0, 0, 0, 0, 0, 0, 0, 0, 0, 0, 0));
        check.refused(x, "new: setMinutes(0, 1, 5)", Check.INDEX, () -> x.setMinutes(0, 1, 5));
    }

    private static void promise1NoHolidays() {
        RefusePlanner x = new RefusePlanner();
        check.due("new: nextWorkday()", x.nextWorkday(), 1);
        for (int day = 0; day < 400; day++) {
            check.due("new: a holiday on " + day, x.setHoliday(day, false), false);
        }
    }

    private static void promise2AddPlace() {
        RefusePlanner x = new RefusePlanner();
        check.due("addPlace()", x.addPlace(), 1);
        for (int kind = 0; kind < 3; kind++) {
            check.due("a tip at a new place", x.setTip(1, kind, true), false);
        }
        check.due("addPlace()", x.addPlace(), 2);
        for (int kind = 0; kind < 3; kind++) {
            check.due("a tip at a newer place", x.setTip(2, kind, false), false);
        }
        check.due("setMinutes(1, 2, 5)", x.setMinutes(1, 2, 5), 30);
    }

    private static void promise3SetMinutes() {
        RefusePlanner x = Check.withPlaces(2);
        check.due("setMinutes(0, 1, 1)", x.setMinutes(0, 1, 1), 30);
        check.due("setMinutes(1, 0, 120)", x.setMinutes(1, 0, 120), 1);
        check.due("setMinutes(0, 1, 7)", x.setMinutes(0, 1, 7), 120);
        check.due("setMinutes(2, 1, 8)", x.setMinutes(2, 1, 8), 30);
        check.due("setMinutes(1, 2, 8)", x.setMinutes(1, 2, 8), 8);
        check.due("setMinutes(0, 2, 9)", x.setMinutes(0, 2, 9), 30);
    }

    private static void promise4SetTip() {
        RefusePlanner x = Check.withPlaces(1);
        check.due("setTip(1, 0, false)", x.setTip(1, 0, false), false);
        check.due("setTip(1, 0, true)", x.setTip(1, 0, true), false);
        check.due("setTip(1, 0, true) again", x.setTip(1, 0, true), true);
        check.due("setTip(0, 0, false)", x.setTip(0, 0, false), true);
        check.due("setTip(0, 0, false) again", x.setTip(0, 0, false), false);
        check.due("setTip(1, 2, true)", x.setTip(1, 2, true), false);
        check.due("digest() of the tips", x.digest(),
                Check.checksum(0, 2, 30, 6, 5, 0, 0, 0, 0, 0, 0, 0, 0, 0, 0, 0, 0, 0, 0, 0, 0));
    }

    private static void promise5SetHoliday() {
        RefusePlanner x = new RefusePlanner();
        for (int day : new int[] {0, 1, 200, 398, 399}) {
            check.due("setHoliday(" + day + ", true)", x.setHoliday(day, true), false);
            check.due("setHoliday(" + day + ", true) again", x.setHoliday(day, true), true);
            check.due("setHoliday(" + day + ", false)", x.setHoliday(day, false), true);
            check.due("setHoliday(" + day + ", false) again", x.setHoliday(day, false), false);
        }
    }

    private static void promise5DaysGoneBy() {
        RefusePlanner x = Check.onDay(new RefusePlanner(), 10);
        check.due("setHoliday on a day gone by", x.setHoliday(3, true), false);
        check.due("it stays", x.setHoliday(3, true), true);
        check.due("setHoliday on the first day", x.setHoliday(0, true), false);
        check.due("it stays", x.setHoliday(0, false), true);
    }

    private static void promise6Overflows() {
        RefusePlanner x = Check.withPlaces(1);
        x.addBin(1, 0, 10, 5);
        x.addBin(1, 0, 11, 4);
        x.addBin(1, 2, 50, 200);
        check.due("pass(1)", x.pass(1), 1);
        check.due("wasted(2)", x.wasted(2), 150L);
        check.due("pass(1), bin 0 just full", x.pass(1), 1);
        check.dueFacts(x, 0, 1, 0, 10, 5, 0, 0);
        check.due("pass(2)", x.pass(2), 6);
        check.dueFacts(x, 0, 1, 0, 10, 5, 0, 2);
        check.dueFacts(x, 1, 1, 0, 11, 5, 0, 2);
        check.dueFacts(x, 2, 1, 2, 50, 25, 0, 4);
        check.due("wasted(0)", x.wasted(0), 15L);
        check.due("wasted(1)", x.wasted(1), 0L);
        check.due("wasted(2)", x.wasted(2), 750L);
    }

    /** "Lets days pass, one after the other": many at once do what they do one at a time. */
    private static void promise6OneAfterTheOther() {
        RefusePlanner atOnce = Check.withPlaces(1);
        atOnce.addBin(1, 0, 100, 7);
        RefusePlanner daily = Check.withPlaces(1);
        daily.addBin(1, 0, 100, 7);
        int overflows = 0;
        for (int day = 1; day <= 60; day++) {
            overflows += daily.pass(1);
        }
        check.due("pass(1), sixty times", overflows, 46);
        check.due("pass(60)", atOnce.pass(60), 46);
        check.due("digest() after pass(60)", atOnce.digest(), daily.digest());
    }

    private static void promise6NoBins() {
        RefusePlanner x = new RefusePlanner();
        check.due("pass(1) without bins", x.pass(1), 0);
        check.due("pass(60) without bins", x.pass(60), 0);
    }

    private static void promise6SixteenBins() {
        RefusePlanner x = Check.withPlaces(1);
        for (int bin = 0; bin < 16; bin++) {
            x.addBin(1, bin % 3, 10, 11);
        }
        check.due("pass(60), sixteen overflows a day", x.pass(60), 960);
        check.dueFacts(x, 0, 1, 0, 10, 5, 0, 60);
        check.dueFacts(x, 15, 1, 0, 10, 5, 0, 60);
        check.due("wasted(0), six bins", x.wasted(0), 6L * (60 * 11 - 10));
        check.due("wasted(2), five bins", x.wasted(2), 5L * (60 * 11 - 10));
    }

    private static void promise7Today() {
        RefusePlanner x = new RefusePlanner();
        check.due("today()", x.today(), 0);
        x.pass(1);
        check.due("today()", x.today(), 1);
        x.pass(60);
        check.due("today()", x.today(), 61);
        x.setHoliday(62, true);
        x.pass(1);
        check.due("today(), a holiday", x.today(), 62);
        for (int i = 0; i < 5; i++) {
            x.pass(60);
        }
        x.pass(37);
        check.due("today(), the last day", x.today(), 399);
    }

    private static void promise8NextWorkday() {
        RefusePlanner x = new RefusePlanner();
        check.due("nextWorkday()", x.nextWorkday(), 1);
        x.setHoliday(1, true);
        x.setHoliday(2, true);
        x.setHoliday(4, true);
        check.due("nextWorkday() behind two holidays", x.nextWorkday(), 3);
        x.pass(3);
        check.due("nextWorkday() on day 3", x.nextWorkday(), 5);
    }

    /** "the first day behind today": today is not behind today, be it a holiday or not. */
    private static void promise8TodayDoesNotCount() {
        RefusePlanner x = new RefusePlanner();
        x.setHoliday(0, true);
        check.due("nextWorkday() when today is a holiday", x.nextWorkday(), 1);
        x.pass(5);
        check.due("nextWorkday() on day 5", x.nextWorkday(), 6);
        x.setHoliday(5, true);
        check.due("nextWorkday() on day 5, a holiday", x.nextWorkday(), 6);
    }

    /** "(days from 400 on are none)". */
    private static void promise8LastDays() {
        RefusePlanner x = Check.onDay(new RefusePlanner(), 397);
        x.setHoliday(398, true);
        check.due("nextWorkday() on day 397", x.nextWorkday(), 399);
        x.setHoliday(399, true);
        check.due("nextWorkday() on day 397, no workday left", x.nextWorkday(), 400);
        x.pass(2);
        check.due("nextWorkday() on day 399, a holiday", x.nextWorkday(), 400);
        x.setHoliday(399, false);
        check.due("nextWorkday() on day 399", x.nextWorkday(), 400);
    }
}
