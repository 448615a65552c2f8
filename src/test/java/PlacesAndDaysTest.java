/** Promises 1 to 8. */
public final class PlacesAndDaysTest {
    private static final Class<IndexOutOfBoundsException> INDEX = IndexOutOfBoundsException.class;
    private static final Class<IllegalArgumentException> ARGUMENT = IllegalArgumentException.class;
    private static final Class<IllegalStateException> STATE = IllegalStateException.class;
    private static final Check check = new Check();

    public static void main(String[] args) {
        promise1NewObject();
        promise2AddPlace();
        promise3SetMinutes();
        promise4SetTip();
        promise5SetHoliday();
        promise6Pass();
        promise6Overflows();
        promise7Today();
        promise8NextWorkday();
        check.end();
    }

    private static void promise1NewObject() {
        RefusePlanner x = new RefusePlanner();
        check.due("new: today()", x.today(), 0);
        check.due("new: binCount()", x.binCount(), 0);
        check.due("new: error()", x.error(), 0.0);
        for (int kind = 0; kind < 3; kind++) {
            check.due("new: planSize", x.planSize(kind), 0);
            check.due("new: wasted", x.wasted(kind), 0L);
            for (int what = 0; what < 4; what++) {
                check.due("new: total", x.total(kind, what), 0L);
            }
            check.due("new: the depot has a tip", x.setTip(0, kind, true), true);
        }
        check.due("new: digest()", x.digest(),
                Check.checksum(0, 1, 7, 0, 0, 0, 0, 0, 0, 0, 0, 0, 0, 0, 0, 0, 0, 0, 0));
        check.refused(x, "new: setMinutes(0, 1, 5)", INDEX, () -> x.setMinutes(0, 1, 5));
        for (int day = 0; day < 400; day++) {
            check.due("new: a holiday on " + day, x.setHoliday(day, false), false);
        }
    }

    private static void promise2AddPlace() {
        RefusePlanner x = new RefusePlanner();
        for (int place = 1; place <= 9; place++) {
            check.due("addPlace()", x.addPlace(), place);
        }
        check.refused(x, "addPlace(), the eleventh", STATE, () -> x.addPlace());
        check.due("setMinutes(0, 9, 30)", x.setMinutes(0, 9, 30), 30);
        check.due("setMinutes(9, 8, 30)", x.setMinutes(9, 8, 30), 30);
        for (int place = 1; place <= 9; place++) {
            for (int kind = 0; kind < 3; kind++) {
                check.due("a tip at a new place", x.setTip(place, kind, false), false);
            }
        }
    }

    private static void promise3SetMinutes() {
        RefusePlanner x = new RefusePlanner();
        x.addPlace();
        x.addPlace();
        check.due("setMinutes(0, 1, 1)", x.setMinutes(0, 1, 1), 30);
        check.due("setMinutes(1, 0, 120)", x.setMinutes(1, 0, 120), 1);
        check.due("setMinutes(0, 1, 7)", x.setMinutes(0, 1, 7), 120);
        check.due("setMinutes(2, 1, 8)", x.setMinutes(2, 1, 8), 30);
        check.due("setMinutes(1, 2, 8)", x.setMinutes(1, 2, 8), 8);
        check.due("setMinutes(0, 2, 9)", x.setMinutes(0, 2, 9), 30);
        check.refused(x, "setMinutes(0, 1, 0)", ARGUMENT, () -> x.setMinutes(0, 1, 0));
        check.refused(x, "setMinutes(0, 1, 121)", ARGUMENT, () -> x.setMinutes(0, 1, 121));
        check.refused(x, "setMinutes(0, 1, MIN)", ARGUMENT, () -> x.setMinutes(0, 1, Integer.MIN_VALUE));
        check.refused(x, "setMinutes(1, 1, 5)", ARGUMENT, () -> x.setMinutes(1, 1, 5));
        check.refused(x, "setMinutes(-1, 1, 5)", INDEX, () -> x.setMinutes(-1, 1, 5));
        check.refused(x, "setMinutes(1, -1, 5)", INDEX, () -> x.setMinutes(1, -1, 5));
        check.refused(x, "setMinutes(3, 1, 5)", INDEX, () -> x.setMinutes(3, 1, 5));
        check.refused(x, "setMinutes(1, 3, 0)", INDEX, () -> x.setMinutes(1, 3, 0));
        check.refused(x, "setMinutes(3, 3, 5)", INDEX, () -> x.setMinutes(3, 3, 5));
        check.refused(x, "setMinutes(MAX, MIN, 0)", INDEX,
                () -> x.setMinutes(Integer.MAX_VALUE, Integer.MIN_VALUE, 0));
        check.due("setMinutes(0, 1, 7)", x.setMinutes(0, 1, 7), 7);
    }

    private static void promise4SetTip() {
        RefusePlanner x = new RefusePlanner();
        x.addPlace();
        check.due("setTip(1, 0, false)", x.setTip(1, 0, false), false);
        check.refused(x, "setTip(0, 0, false), the last", ARGUMENT, () -> x.setTip(0, 0, false));
        check.due("setTip(1, 0, true)", x.setTip(1, 0, true), false);
        check.due("setTip(1, 0, true) again", x.setTip(1, 0, true), true);
        check.refused(x, "setTip(0, 1, false), another kind's last", ARGUMENT, () -> x.setTip(0, 1, false));
        check.refused(x, "setTip(0, 2, false), another kind's last", ARGUMENT, () -> x.setTip(0, 2, false));
        check.due("setTip(0, 0, false)", x.setTip(0, 0, false), true);
        check.due("setTip(0, 0, false) again", x.setTip(0, 0, false), false);
        check.refused(x, "setTip(1, 0, false), the last", ARGUMENT, () -> x.setTip(1, 0, false));
        check.due("setTip(1, 0, true), the last", x.setTip(1, 0, true), true);
        check.due("setTip(1, 2, true)", x.setTip(1, 2, true), false);
        check.due("digest() of the tips", x.digest(),
                Check.checksum(0, 2, 30, 6, 5, 0, 0, 0, 0, 0, 0, 0, 0, 0, 0, 0, 0, 0, 0, 0, 0));
        check.refused(x, "setTip(2, 0, true)", INDEX, () -> x.setTip(2, 0, true));
        check.refused(x, "setTip(10, 0, false)", INDEX, () -> x.setTip(10, 0, false));
        check.refused(x, "setTip(-1, 0, true)", INDEX, () -> x.setTip(-1, 0, true));
        check.refused(x, "setTip(0, 3, false)", INDEX, () -> x.setTip(0, 3, false));
        check.refused(x, "setTip(0, -1, true)", INDEX, () -> x.setTip(0, -1, true));
        check.refused(x, "setTip(0, 32, false)", INDEX, () -> x.setTip(0, 32, false));
    }

    private static void promise5SetHoliday() {
        RefusePlanner x = new RefusePlanner();
        check.due("setHoliday(0, true)", x.setHoliday(0, true), false);
        check.due("setHoliday(0, true) again", x.setHoliday(0, true), true);
        check.due("setHoliday(0, false)", x.setHoliday(0, false), true);
        check.due("setHoliday(0, false) again", x.setHoliday(0, false), false);
        check.due("setHoliday(399, true)", x.setHoliday(399, true), false);
        check.due("setHoliday(399, false)", x.setHoliday(399, false), true);
        x.pass(10);
        check.due("setHoliday on a day gone by", x.setHoliday(3, true), false);
        check.due("it stays", x.setHoliday(3, true), true);
        check.refused(x, "setHoliday(-1, true)", INDEX, () -> x.setHoliday(-1, true));
        check.refused(x, "setHoliday(400, false)", INDEX, () -> x.setHoliday(400, false));
        check.refused(x, "setHoliday(MAX, true)", INDEX, () -> x.setHoliday(Integer.MAX_VALUE, true));
        check.refused(x, "setHoliday(MIN, true)", INDEX, () -> x.setHoliday(Integer.MIN_VALUE, true));
    }

    private static void promise6Pass() {
        RefusePlanner x = new RefusePlanner();
        check.refused(x, "pass(0)", ARGUMENT, () -> x.pass(0));
        check.refused(x, "pass(-1)", ARGUMENT, () -> x.pass(-1));
        check.refused(x, "pass(61)", ARGUMENT, () -> x.pass(61));
        check.refused(x, "pass(MAX)", ARGUMENT, () -> x.pass(Integer.MAX_VALUE));
        for (int i = 0; i < 6; i++) {
            check.due("pass(60)", x.pass(60), 0);
        }
        check.refused(x, "pass(60) on day 360", STATE, () -> x.pass(60));
        check.refused(x, "pass(40) on day 360", STATE, () -> x.pass(40));
        check.due("pass(39) on day 360", x.pass(39), 0);
        check.due("today()", x.today(), 399);
        check.refused(x, "pass(1) on day 399", STATE, () -> x.pass(1));
        check.refused(x, "pass(61) on day 399", ARGUMENT, () -> x.pass(61));
        check.refused(x, "pass(0) on day 399", ARGUMENT, () -> x.pass(0));
    }

    private static void promise6Overflows() {
        RefusePlanner x = new RefusePlanner();
        x.addPlace();
        x.addBin(1, 0, 10, 5);
        x.addBin(1, 0, 11, 4);
        x.addBin(1, 2, 50, 200);
        check.due("pass(1)", x.pass(1), 1);
        check.due("bin(2, 2), cut to its size", x.bin(2, 2), 50);
        check.due("wasted(2)", x.wasted(2), 150L);
        check.due("pass(1), bin 0 just full", x.pass(1), 1);
        check.due("bin(0, 2)", x.bin(0, 2), 10);
        check.due("bin(0, 5)", x.bin(0, 5), 0);
        check.due("wasted(0)", x.wasted(0), 0L);
        check.due("wasted(2)", x.wasted(2), 350L);
        check.due("pass(2)", x.pass(2), 6);
        check.due("bin(0, 5)", x.bin(0, 5), 2);
        check.due("bin(1, 5)", x.bin(1, 5), 2);
        check.due("bin(1, 2)", x.bin(1, 2), 11);
        check.due("bin(2, 5)", x.bin(2, 5), 4);
        check.due("wasted(0)", x.wasted(0), 15L);
        check.due("wasted(1)", x.wasted(1), 0L);
        check.due("wasted(2)", x.wasted(2), 750L);
        x.setGrowth(0, 0);
        check.due("pass(1), a full bin without growth", x.pass(1), 2);
        check.due("bin(0, 5)", x.bin(0, 5), 2);
    }

    private static void promise7Today() {
        RefusePlanner x = new RefusePlanner();
        x.pass(1);
        check.due("today()", x.today(), 1);
        x.pass(60);
        check.due("today()", x.today(), 61);
        x.setHoliday(62, true);
        x.pass(1);
        check.due("today(), a holiday", x.today(), 62);
    }

    private static void promise8NextWorkday() {
        RefusePlanner x = new RefusePlanner();
        check.due("nextWorkday()", x.nextWorkday(), 1);
        x.setHoliday(0, true);
        check.due("nextWorkday() when today is a holiday", x.nextWorkday(), 1);
        x.setHoliday(1, true);
        x.setHoliday(2, true);
        x.setHoliday(4, true);
        check.due("nextWorkday()", x.nextWorkday(), 3);
        x.pass(3);
        check.due("nextWorkday() on day 3", x.nextWorkday(), 5);
        for (int day = 5; day < 399; day++) {
            x.setHoliday(day, true);
        }
        check.due("nextWorkday()", x.nextWorkday(), 399);
        x.setHoliday(399, true);
        check.due("nextWorkday() when all are holidays", x.nextWorkday(), 400);
        RefusePlanner y = new RefusePlanner();
        for (int i = 0; i < 6; i++) {
            y.pass(60);
        }
        y.pass(39);
        check.due("nextWorkday() on day 399", y.nextWorkday(), 400);
    }
}
