import java.util.concurrent.Callable;
import java.util.function.Supplier;

/** Counts and prints the answers that are not due; shared by the project's tests. */
final class Check {
    static final Class<IndexOutOfBoundsException> INDEX = IndexOutOfBoundsException.class;
    static final Class<IllegalArgumentException> ARGUMENT = IllegalArgumentException.class;
    static final Class<IllegalStateException> STATE = IllegalStateException.class;

    private static final int MOST_PRINTED = 50;
    private int wrong = 0;

    /** A call of the face in which one number is left open. */
    interface Call {
        Object on(RefusePlanner planner, int number);
    }

    /** A new planner with so many places beside the depot. */
    static RefusePlanner withPlaces(int places) {
        RefusePlanner x = new RefusePlanner();
        for (int i = 0; i < places; i++) {
            x.addPlace();
        }
        return x;
    }

    /** A new planner with all the places and bins that there can be: bin i is of kind i % 3, and fills. */
    static RefusePlanner full() {
        RefusePlanner x = withPlaces(9);
        for (int i = 0; i < 16; i++) {
            x.addBin(1 + i % 9, i % 3, 100, 10);
        }
        return x;
    }

    static RefusePlanner onDay(RefusePlanner x, int day) {
        while (x.today() < day) {
            x.pass(Math.min(60, day - x.today()));
        }
        return x;
    }

    void due(String call, Object got, Object want) {
        if (!got.equals(want)) {
            tell(call + " answered " + got + ", due is " + want);
        }
    }

    void dueFacts(RefusePlanner x, int bin, int... facts) {
        for (int what = 0; what < facts.length; what++) {
            due("bin(" + bin + ", " + what + ")", x.bin(bin, what), facts[what]);
        }
    }

    void duePlan(RefusePlanner x, int kind, int... bins) {
        due("planSize(" + kind + ")", x.planSize(kind), bins.length);
        for (int i = 0; i < bins.length; i++) {
            due("planned(" + kind + ", " + i + ")", x.planned(kind, i), bins[i]);
        }
    }

    void dueTotals(RefusePlanner x, int kind, long... totals) {
        for (int what = 0; what < totals.length; what++) {
            due("total(" + kind + ", " + what + ")", x.total(kind, what), totals[what]);
        }
    }

    /** The call must throw just this exception, and the planner must be as it was. */
    void refused(RefusePlanner planner, String call, Class<? extends RuntimeException> want, Callable<?> action) {
        long before = planner.digest();
        try {
            tell(call + " answered " + action.call() + ", due is " + want.getSimpleName());
        } catch (Exception e) {
            due(call, thrown(e), "throws." + want.getSimpleName());
        }
        due("digest() after the refused " + call, planner.digest(), before);
    }

    /**
     * The call takes the numbers from least to most and refuses all others (if most is less than
     * least, there is none that it takes). Each number is tried on a planner of its own.
     */
    void takes(int least, int most, Class<? extends RuntimeException> otherwise, String call,
            Supplier<RefusePlanner> fresh, Call action) {
        for (int number : new int[] {Integer.MIN_VALUE, least - 1, most + 1, Integer.MAX_VALUE}) {
            RefusePlanner x = fresh.get();
            refused(x, call + " with " + number, otherwise, () -> action.on(x, number));
        }
        for (int number : new int[] {least, most}) {
            if (least <= most) {
                taken(call + " with " + number, () -> action.on(fresh.get(), number));
            }
        }
    }

    void taken(String call, Callable<?> action) {
        try {
            action.call();
        } catch (Exception e) {
            tell(call + " " + thrown(e) + ", due is an answer");
        }
    }

    void tell(String fault) {
        wrong++;
        if (wrong <= MOST_PRINTED) {
            System.out.println(fault);
        }
    }

    /** The exception as an answer; one that the library threw, and not the class's own throw, shows. */
    static String thrown(Exception e) {
        String text = "throws." + e.getClass().getSimpleName();
        String thrower = e.getStackTrace()[0].getClassName();
        boolean own = thrower.equals("Model") || thrower.startsWith("RefusePlanner");
        return own ? text : text + " from " + thrower;
    }

    /** The checksum of promise 24 over these numbers. */
    static long checksum(long... numbers) {
        long d = 197;
        for (long x : numbers) {
            d = d * 31 + x;
        }
        return d;
    }

    void end() {
        if (wrong > 0) {
            System.out.println(wrong + " wrong");
            System.exit(1);
        }
    }
}
