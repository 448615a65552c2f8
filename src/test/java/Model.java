import java.util.ArrayList;
import java.util.List;
import java.util.TreeMap;
import java.util.TreeSet;

/** The document told once more, as plainly as it goes, to hold RefusePlanner against in long runs. */
final class Model {
    private static final class Bin {
        int place, kind, size, growth, content, rate, since, overflows, warnings;
        boolean dirty;

        int[] told() {
            return new int[] {place, kind, content, rate, since, overflows, warnings, dirty ? 1 : 0};
        }

        int expected(int day) {
            int litres = rate * (day - since) / 10;
            return litres > size ? size : litres;
        }
    }

    private int day = 0;
    private int places = 1;
    private final TreeMap<String, Integer> minutes = new TreeMap<>();
    private final TreeSet<String> tips = new TreeSet<>();
    private final TreeSet<Integer> holidays = new TreeSet<>();
    private final List<Bin> bins = new ArrayList<>();
    private final long[][] totals = new long[3][4];
    private final long[] wasted = new long[3];

    Model() {
        for (int kind = 0; kind < 3; kind++) {
            tips.add(0 + "/" + kind);
        }
    }

    private static void index(boolean good) {
        if (!good) {
            throw new IndexOutOfBoundsException();
        }
    }

    private static void argument(boolean good) {
        if (!good) {
            throw new IllegalArgumentException();
        }
    }

    private static void state(boolean good) {
        if (!good) {
            throw new IllegalStateException();
        }
    }

    private boolean isPlace(int p) {
        return 0 <= p && p < places;
    }

    private boolean isKind(int k) {
        return 0 <= k && k <= 2;
    }

    private boolean isBin(int b) {
        return 0 <= b && b < bins.size();
    }

    private static String key(int a, int b) {
        return Math.min(a, b) + "-" + Math.max(a, b);
    }

    private int drive(int a, int b) {
        return a == b ? 0 : minutes.getOrDefault(key(a, b), 30);
    }

    int addPlace() {
        state(places < 10);
        return places++;
    }

    int setMinutes(int a, int b, int m) {
        index(isPlace(a) && isPlace(b));
        argument(a != b && 1 <= m && m <= 120);
        Integer before = minutes.put(key(a, b), m);
        return before == null ? 30 : before;
    }

    boolean setTip(int place, int kind, boolean isTip) {
        index(isPlace(place) && isKind(kind));
        String tip = place + "/" + kind;
        boolean before = tips.contains(tip);
        long all = tips.stream().filter(t -> t.endsWith("/" + kind)).count();
        argument(isTip || !before || all > 1);
        if (isTip) {
            tips.add(tip);
        } else {
            tips.remove(tip);
        }
        return before;
    }

    boolean setHoliday(int d, boolean isHoliday) {
        index(0 <= d && d <= 399);
        boolean before = holidays.contains(d);
        if (isHoliday) {
            holidays.add(d);
        } else {
            holidays.remove(d);
        }
        return before;
    }

    int pass(int days) {
        argument(1 <= days && days <= 60);
        state(day + days <= 399);
        int overflows = 0;
        for (int i = 0; i < days; i++) {
            day++;
            for (Bin b : bins) {
                b.content += b.growth;
                if (b.content > b.size) {
                    wasted[b.kind] += b.content - b.size;
                    b.content = b.size;
                    b.overflows++;
                    overflows++;
                }
            }
        }
        return overflows;
    }

    int today() {
        return day;
    }

    int nextWorkday() {
        int d = day + 1;
        while (holidays.contains(d)) {
            d++;
        }
        return d;
    }

    int addBin(int place, int kind, int size, int growth) {
        index(isPlace(place) && place != 0 && isKind(kind));
        argument(10 <= size && size <= 1000 && 0 <= growth && growth <= 200);
        state(bins.size() < 16);
        Bin b = new Bin();
        b.place = place;
        b.kind = kind;
        b.size = size;
        b.growth = growth;
        b.rate = size / 2;
        b.since = day;
        bins.add(b);
        return bins.size() - 1;
    }

    int setGrowth(int bin, int growth) {
        index(isBin(bin));
        argument(0 <= growth && growth <= 200);
        int before = bins.get(bin).growth;
        bins.get(bin).growth = growth;
        return before;
    }

    boolean soil(int bin) {
        index(isBin(bin));
        boolean before = bins.get(bin).dirty;
        bins.get(bin).dirty = true;
        return !before;
    }

    int binCount() {
        return bins.size();
    }

    int bin(int bin, int what) {
        index(isBin(bin) && 0 <= what && what <= 7);
        return bins.get(bin).told()[what];
    }

    int expected(int bin, int d) {
        index(isBin(bin));
        argument(day <= d && d <= 999);
        return bins.get(bin).expected(d);
    }

    int fullOn(int bin) {
        index(isBin(bin));
        Bin b = bins.get(bin);
        int d = day;
        while (d <= 999 && b.expected(d) != b.size) {
            d++;
        }
        return d <= 999 ? d : -1;
    }

    private List<Integer> plan(int kind) {
        List<Integer> due = new ArrayList<>();
        for (int i = 0; i < bins.size(); i++) {
            Bin b = bins.get(i);
            boolean quarters = b.expected(day) * 4 >= b.size * 3;
            if (b.kind == kind && (quarters || b.expected(nextWorkday()) == b.size)) {
                due.add(i);
            }
        }
        List<Integer> order = new ArrayList<>();
        int at = 0;
        while (!due.isEmpty()) {
            Integer next = due.get(0);
            for (Integer i : due) {
                if (drive(at, bins.get(i).place) < drive(at, bins.get(next).place)) {
                    next = i;
                }
            }
            due.remove(next);
            order.add(next);
            at = bins.get(next).place;
        }
        return order;
    }

    int planSize(int kind) {
        index(isKind(kind));
        return plan(kind).size();
    }

    int planned(int kind, int index) {
        index(isKind(kind));
        List<Integer> plan = plan(kind);
        index(0 <= index && index < plan.size());
        return plan.get(index);
    }

    private int bestTip(int kind, int from, int to) {
        int best = -1;
        for (int t = 0; t < places; t++) {
            if (tips.contains(t + "/" + kind)
                    && (best < 0 || drive(from, t) + drive(t, to) < drive(from, best) + drive(best, to))) {
                best = t;
            }
        }
        return best;
    }

    private int tour(int kind, List<Integer> stops, int capacity, boolean real) {
        int took = 0;
        int at = 0;
        int load = 0;
        long litres = 0;
        int visits = 0;
        for (int i : stops) {
            Bin b = bins.get(i);
            took += drive(at, b.place);
            at = b.place;
            if (b.dirty) {
                took += 2;
                if (real) {
                    b.dirty = false;
                    b.warnings++;
                }
                continue;
            }
            if (load != 0 && capacity - load < b.content) {
                took += 2 * drive(at, bestTip(kind, at, at)) + 10;
                litres += load;
                load = 0;
                visits++;
            }
            took += 5;
            int taken = b.content <= capacity - load ? b.content : capacity - load;
            load += taken;
            if (real) {
                if (day != b.since) {
                    b.rate = (b.rate * 3 + b.content * 10 / (day - b.since)) / 4;
                }
                b.content -= taken;
                b.since = day;
            }
        }
        if (load != 0) {
            int tip = bestTip(kind, at, 0);
            took += drive(at, tip) + 10;
            at = tip;
            litres += load;
            visits++;
        }
        took += drive(at, 0);
        if (real) {
            totals[kind][0] += litres;
            totals[kind][1] += visits;
            totals[kind][2] += took;
            totals[kind][3]++;
        }
        return took;
    }

    int collect(int kind, int capacity) {
        index(isKind(kind));
        argument(50 <= capacity && capacity <= 5000);
        state(!holidays.contains(day));
        List<Integer> plan = plan(kind);
        return plan.isEmpty() ? 0 : tour(kind, plan, capacity, true);
    }

    int fetch(int bin, int capacity) {
        index(isBin(bin));
        argument(50 <= capacity && capacity <= 5000);
        state(!holidays.contains(day));
        return tour(bins.get(bin).kind, List.of(bin), capacity, true);
    }

    int wouldTake(int kind, int capacity) {
        index(isKind(kind));
        argument(50 <= capacity && capacity <= 5000);
        return tour(kind, plan(kind), capacity, false);
    }

    long total(int kind, int what) {
        index(isKind(kind) && 0 <= what && what <= 3);
        return totals[kind][what];
    }

    long wasted(int kind) {
        index(isKind(kind));
        return wasted[kind];
    }

    double error() {
        double differences = 0;
        double sizes = 0;
        for (Bin b : bins) {
            differences += Math.abs(b.expected(day) - b.content);
            sizes += b.size;
        }
        return sizes == 0 ? 0 : differences / sizes;
    }

    long digest() {
        List<Long> numbers = new ArrayList<>();
        numbers.add((long) day);
        numbers.add((long) places);
        for (int a = 0; a < places; a++) {
            for (int b = a + 1; b < places; b++) {
                numbers.add((long) drive(a, b));
            }
        }
        for (int p = 0; p < places; p++) {
            long set = 0;
            for (int k = 0; k < 3; k++) {
                set += tips.contains(p + "/" + k) ? 1L << k : 0;
            }
            numbers.add(set);
        }
        numbers.add((long) bins.size());
        for (Bin b : bins) {
            for (int told : b.told()) {
                numbers.add((long) told);
            }
        }
        for (int k = 0; k < 3; k++) {
            for (long t : totals[k]) {
                numbers.add(t);
            }
            numbers.add(wasted[k]);
        }
        return Check.checksum(numbers.stream().mapToLong(Long::longValue).toArray());
    }
}
