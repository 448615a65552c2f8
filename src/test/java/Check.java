import java.util.concurrent.Callable;

/** Counts and prints the answers that are not due; shared by the project's tests. */
final class Check {
    private static final int MOST_PRINTED = 50;
    private int wrong = 0;

    /** A new planner with so many places beside the depot. */
    static RefusePlanner withPlaces(int places) {
        RefusePlanner x = new RefusePlanner();
        for (int i = 0; i < places; i++) {
            x.addPlace();
        }
        return x;
    }

    void due(String call, Object got, Object want) {
        if (!got.equals(want)) {
            tell(call + " answered " + got + ", due is " + want);
        }
    }

    /** The call must throw just this exception, and the planner must be as it was. */
    void refused(RefusePlanner planner, String call, Class<? extends RuntimeException> want, Callable<?> action) {
        long before = planner.digest();
        try {
            tell(call + " answered " + action.call() + ", due is " + want.getSimpleName());
        } catch (Exception e) {
            due(call, thrown(e), "throws." + want.getSimpleName());
        }
        due("digest() after the refused " + call, planner.digest(), before);
    }

    void tell(String fault) {
        wrong++;
        if (wrong <= MOST_PRINTED) {
            System.out.println(fault);
        }
    }

    /** The exception as an answer; one that the library threw, and not the class's own throw, shows. */
    static String thrown(Exception e) {
        String text = "throws." + e.getClass().getSimpleName();
        String thrower = e.getStackTrace()[0].getClassName();
        boolean own = thrower.equals("Model") || thrower.startsWith("RefusePlanner");
        return own ? text : text + " from " + thrower;
    }

    /** The checksum of promise 24 over these numbers. */
    static long checksum(long... numbers) {
        long d = 197;
        for (long x : numbers) {
            d = d * 31 + x;
        }
        return d;
    }

    void end() {
        if (wrong > 0) {
            System.out.println(wrong + " wrong");
            System.exit(1);
        }
    }
}
