/** The example of README.md, call after call: what stands behind each there is what it answers. */
public final class ReadmeTest {
    public static void main(String[] args) {
        Check check = new Check();
        RefusePlanner planner = new RefusePlanner();
        int street = planner.addPlace();
        check.due("addPlace()", street, 1);
        check.due("setMinutes", planner.setMinutes(0, street, 10), 30);
        int bin = planner.addBin(street, 0, 100, 20);
        check.due("addBin", bin, 0);
        check.due("pass(3)", planner.pass(3), 0);
        check.due("bin(bin, 2)", planner.bin(bin, 2), 60);
        check.due("expected", planner.expected(bin, planner.today()), 15);
        check.due("planSize(0) on day 3", planner.planSize(0), 0);
        check.due("pass(12)", planner.pass(12), 10);
        check.due("wasted(0)", planner.wasted(0), 200L);
        check.due("planSize(0) on day 15", planner.planSize(0), 1);
        check.due("wouldTake(0, 300)", planner.wouldTake(0, 300), 35);
        check.due("collect(0, 300)", planner.collect(0, 300), 35);
        check.due("total(0, 0)", planner.total(0, 0), 100L);
        check.due("bin(bin, 3)", planner.bin(bin, 3), 54);
        check.end();
    }
}
