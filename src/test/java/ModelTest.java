import java.util.Random;
import java.util.concurrent.Callable;

/**
 * Promises 1 to 24 in long mixed runs: every answer and every exception is that of the Model, and
 * so is the digest after each call. The seeds are fixed, so that each run of the test is the same.
 */
public final class ModelTest {
    private static final int RUNS = 2500;
    /** What an object answers to later calls is free. */
    private static final int CALLS = 512;
    private static final int[] WILD = {
        Integer.MIN_VALUE, -400, -32, -1, 0, 1, 2, 3, 9, 10, 16, 32, 49, 50, 60, 61, 120, 121, 200, 201,
        399, 400, 999, 1000, 1001, 5000, 5001, Integer.MAX_VALUE - 1, Integer.MAX_VALUE};

    private static final Check check = new Check();

    public static void main(String[] args) {
        for (int run = 0; run < RUNS; run++) {
            new ModelTest(run).play();
        }
        check.end();
    }

    private final int run;
    private final Random random;
    private final RefusePlanner x = new RefusePlanner();
    private final Model m = new Model();
    private final int wildOneIn;
    private final int daysAtOnce;
    private final int shortest;
    private int calls = 0;

    private ModelTest(int run) {
        this.run = run;
        random = new Random(run);
        wildOneIn = run % 3 == 0 ? 10 : 60;
        daysAtOnce = run % 5 == 0 ? 60 : 1 + run % 9;
        // Few different minutes make ties, many different ones make odd ways.
        shortest = run % 2 == 0 ? 119 : 1;
    }

    private void play() {
        int first = 1 + random.nextInt(9);
        for (int i = 0; i < first; i++) {
            both("addPlace()", () -> x.addPlace(), () -> m.addPlace());
        }
        for (int i = 0; i < 8; i++) {
            addBin();
        }
        while (calls <= CALLS - 3) {
            change();
            ask();
            both("digest()", () -> x.digest(), () -> m.digest());
        }
    }

    private int number(int least, int most) {
        return random.nextInt(wildOneIn) == 0 ? WILD[random.nextInt(WILD.length)] : least + random.nextInt(most - least + 1);
    }

    private void addBin() {
        int place = number(1, 9);
        int kind = number(0, 2);
        int size = random.nextBoolean() ? number(10, 60) : number(10, 1000);
        int growth = random.nextBoolean() ? number(0, 10) : number(0, 200);
        both("addBin(" + place + ", " + kind + ", " + size + ", " + growth + ")",
                () -> x.addBin(place, kind, size, growth), () -> m.addBin(place, kind, size, growth));
    }

    private void change() {
        int a = number(0, 9);
        int b = number(0, 15);
        int kind = number(0, 2);
        int capacity = random.nextBoolean() ? number(50, 150) : number(50, 2000);
        boolean yes = random.nextBoolean();
        switch (random.nextInt(14)) {
            case 0 -> both("addPlace()", () -> x.addPlace(), () -> m.addPlace());
            case 1, 2 -> {
                int c = number(0, 9);
                int minutes = number(shortest, 120);
                both("setMinutes(" + a + ", " + c + ", " + minutes + ")",
                        () -> x.setMinutes(a, c, minutes), () -> m.setMinutes(a, c, minutes));
            }
            case 3 -> both("setTip(" + a + ", " + kind + ", " + yes + ")",
                    () -> x.setTip(a, kind, yes), () -> m.setTip(a, kind, yes));
            case 4 -> {
                int day = number(0, 5) + (random.nextInt(20) == 0 ? number(0, 394) : m.today());
                both("setHoliday(" + day + ", " + yes + ")",
                        () -> x.setHoliday(day, yes), () -> m.setHoliday(day, yes));
            }
            case 5, 6, 7 -> {
                int days = number(1, daysAtOnce);
                both("pass(" + days + ")", () -> x.pass(days), () -> m.pass(days));
            }
            case 8 -> addBin();
            case 9 -> {
                int growth = number(0, 200);
                both("setGrowth(" + b + ", " + growth + ")",
                        () -> x.setGrowth(b, growth), () -> m.setGrowth(b, growth));
            }
            case 10 -> both("soil(" + b + ")", () -> x.soil(b), () -> m.soil(b));
            case 11, 12 -> both("collect(" + kind + ", " + capacity + ")",
                    () -> x.collect(kind, capacity), () -> m.collect(kind, capacity));
            default -> both("fetch(" + b + ", " + capacity + ")",
                    () -> x.fetch(b, capacity), () -> m.fetch(b, capacity));
        }
    }

    private void ask() {
        int b = number(0, 15);
        int kind = number(0, 2);
        int what = number(0, 7);
        switch (random.nextInt(12)) {
            case 0 -> both("today()", () -> x.today(), () -> m.today());
            case 1 -> both("nextWorkday()", () -> x.nextWorkday(), () -> m.nextWorkday());
            case 2 -> both("binCount()", () -> x.binCount(), () -> m.binCount());
            case 3 -> both("bin(" + b + ", " + what + ")", () -> x.bin(b, what), () -> m.bin(b, what));
            case 4 -> {
                int day = number(0, 999);
                both("expected(" + b + ", " + day + ")", () -> x.expected(b, day), () -> m.expected(b, day));
            }
            case 5 -> both("fullOn(" + b + ")", () -> x.fullOn(b), () -> m.fullOn(b));
            case 6 -> both("planSize(" + kind + ")", () -> x.planSize(kind), () -> m.planSize(kind));
            case 7 -> both("planned(" + kind + ", " + what + ")",
                    () -> x.planned(kind, what), () -> m.planned(kind, what));
            case 8 -> {
                int capacity = number(50, 500);
                both("wouldTake(" + kind + ", " + capacity + ")",
                        () -> x.wouldTake(kind, capacity), () -> m.wouldTake(kind, capacity));
            }
            case 9 -> both("total(" + kind + ", " + what + ")", () -> x.total(kind, what), () -> m.total(kind, what));
            case 10 -> both("wasted(" + kind + ")", () -> x.wasted(kind), () -> m.wasted(kind));
            default -> both("error()", () -> x.error(), () -> m.error());
        }
    }

    private void both(String call, Callable<?> got, Callable<?> want) {
        calls++;
        check.due("run " + run + ": " + call, answer(got), answer(want));
    }

    private static Object answer(Callable<?> call) {
        try {
            return call.call();
        } catch (Exception e) {
            return Check.thrown(e);
        }
    }
}
