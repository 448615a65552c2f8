import java.util.ArrayList;

/** A planner for the collection of refuse. */
public final class RefusePlanner {
    private static final int DEPOT = 0;
    private static final int MAX_PLACES = 10;
    private static final int DEFAULT_MINUTES = 30;
    private static final int MAX_MINUTES = 120;

    private static final int KINDS = 3;
    private static final int ALL_KINDS = (1 << KINDS) - 1;

    private static final int DAYS = 400;
    private static final int MAX_PASS = 60;
    private static final int LAST_FORECAST_DAY = 999;

    private static final int MAX_BINS = 16;
    private static final int MIN_SIZE = 10;
    private static final int MAX_SIZE = 1000;
    private static final int MAX_GROWTH = 200;
    private static final int BIN_FACTS = 8;

    private static final int MIN_CAPACITY = 50;
    private static final int MAX_CAPACITY = 5000;
    private static final int EMPTYING_MINUTES = 5;
    private static final int TIPPING_MINUTES = 10;
    private static final int NOTING_MINUTES = 2;

    private static final int TOTALS = 4;
    private static final int TOTAL_LITRES = 0;
    private static final int TOTAL_TIP_VISITS = 1;
    private static final int TOTAL_MINUTES = 2;
    private static final int TOTAL_TOURS = 3;

    private static final long DIGEST_START = 197L;

    private final Region region;
    private final ArrayList<Bin> bins;
    private final boolean[] holidays;
    private final long[] totals;
    private final long[] wastes;
    /** The bins of the tour at hand, in their order: a row that each call writes anew. */
    private final int[] route;
    private int stops;
    private int day;

    public RefusePlanner() {
        region = new Region();
        bins = new ArrayList<Bin>();
        holidays = new boolean[DAYS];
        totals = new long[KINDS * TOTALS];
        wastes = new long[KINDS];
        route = new int[MAX_BINS];
        stops = 0;
        day = 0;
    }

    // ---- places and days

    public int addPlace() throws IllegalStateException {
        if (region.places >= MAX_PLACES) {
            throw new IllegalStateException("there are 10 places");
        }
        return region.add();
    }

    public int setMinutes(int a, int b, int minutes) throws IndexOutOfBoundsException, IllegalArgumentException {
        checkPlace(a);
        checkPlace(b);
        if (a == b) {
            throw new IllegalArgumentException("the places are the same");
        }
        checkRange(minutes, 1, MAX_MINUTES);
        int before = region.between(a, b);
        region.join(a, b, minutes);
        return before;
    }

    public boolean setTip(int place, int kind, boolean isTip) throws IndexOutOfBoundsException, IllegalArgumentException {
        checkPlace(place);
        checkKind(kind);
        boolean before = region.hasTip(place, kind);
        if (before && !isTip && region.countTips(kind) == 1) {
            throw new IllegalArgumentException("it is the last tip for this kind");
        }
        region.putTip(place, kind, isTip);
        return before;
    }

    public boolean setHoliday(int day, boolean isHoliday) throws IndexOutOfBoundsException {
        if (day < 0 || day >= DAYS) {
            throw new IndexOutOfBoundsException("the day is not 0 to 399");
        }
        boolean before = holidays[day];
        holidays[day] = isHoliday;
        return before;
    }

    public int pass(int days) throws IllegalArgumentException, IllegalStateException {
        checkRange(days, 1, MAX_PASS);
        if (day + days >= DAYS) {
            throw new IllegalStateException("it would be later than day 399");
        }
        int overflows = 0;
        for (int i = 0; i < days; i++) {
            overflows += passOneDay();
        }
        return overflows;
    }

    public int today() {
        return day;
    }

    public int nextWorkday() {
        for (int next = day + 1; next < DAYS; next++) {
            if (!holidays[next]) {
                return next;
            }
        }
        return DAYS;
    }

    // ---- bins

    public int addBin(int place, int kind, int size, int growth) throws IndexOutOfBoundsException, IllegalArgumentException, IllegalStateException {
        checkPlace(place);
        if (place == DEPOT) {
            throw new IndexOutOfBoundsException("no bin stands at the depot");
        }
        checkKind(kind);
        checkRange(size, MIN_SIZE, MAX_SIZE);
        checkRange(growth, 0, MAX_GROWTH);
        int number = bins.size();
        if (number >= MAX_BINS) {
            throw new IllegalStateException("there are 16 bins");
        }
        bins.add(new Bin(place, kind, size, growth, day));
        return number;
    }

    public int setGrowth(int bin, int growth) throws IndexOutOfBoundsException, IllegalArgumentException {
        checkBin(bin);
        checkRange(growth, 0, MAX_GROWTH);
        Bin it = bins.get(bin);
        int before = it.growth;
        it.growth = growth;
        return before;
    }

    public boolean soil(int bin) throws IndexOutOfBoundsException {
        checkBin(bin);
        Bin it = bins.get(bin);
        boolean wasClean = !it.dirty;
        it.dirty = true;
        return wasClean;
    }

    public int binCount() {
        return bins.size();
    }

    public int bin(int bin, int what) throws IndexOutOfBoundsException {
        checkBin(bin);
        if (what < 0 || what >= BIN_FACTS) {
            throw new IndexOutOfBoundsException("what is not 0 to 7");
        }
        return bins.get(bin).fact(what);
    }

    public int expected(int bin, int day) throws IndexOutOfBoundsException, IllegalArgumentException {
        checkBin(bin);
        checkRange(day, this.day, LAST_FORECAST_DAY);
        return bins.get(bin).forecast(day);
    }

    public int fullOn(int bin) throws IndexOutOfBoundsException {
        checkBin(bin);
        Bin it = bins.get(bin);
        for (int d = day; d <= LAST_FORECAST_DAY; d++) {
            if (it.isFullOn(d)) {
                return d;
            }
        }
        return -1;
    }

    // ---- plans and tours

    public int planSize(int kind) throws IndexOutOfBoundsException {
        checkKind(kind);
        planRoute(kind);
        return stops;
    }

    public int planned(int kind, int index) throws IndexOutOfBoundsException {
        checkKind(kind);
        planRoute(kind);
        if (index < 0 || index >= stops) {
            throw new IndexOutOfBoundsException("no such place in the plan");
        }
        return route[index];
    }

    public int collect(int kind, int capacity) throws IndexOutOfBoundsException, IllegalArgumentException, IllegalStateException {
        checkKind(kind);
        checkRange(capacity, MIN_CAPACITY, MAX_CAPACITY);
        checkWorkday();
        planRoute(kind);
        return stops == 0 ? 0 : makeTour(kind, capacity);
    }

    public int fetch(int bin, int capacity) throws IndexOutOfBoundsException, IllegalArgumentException, IllegalStateException {
        checkBin(bin);
        checkRange(capacity, MIN_CAPACITY, MAX_CAPACITY);
        checkWorkday();
        route[0] = bin;
        stops = 1;
        return makeTour(bins.get(bin).kind, capacity);
    }

    public int wouldTake(int kind, int capacity) throws IndexOutOfBoundsException, IllegalArgumentException {
        checkKind(kind);
        checkRange(capacity, MIN_CAPACITY, MAX_CAPACITY);
        planRoute(kind);
        Tour tour = new Tour(region, kind, capacity);
        for (int i = 0; i < stops; i++) {
            tour.visit(bins.get(route[i]));
        }
        tour.end();
        return tour.minutes;
    }

    public long total(int kind, int what) throws IndexOutOfBoundsException {
        checkKind(kind);
        if (what < 0 || what >= TOTALS) {
            throw new IndexOutOfBoundsException("what is not 0 to 3");
        }
        return totals[kind * TOTALS + what];
    }

    public long wasted(int kind) throws IndexOutOfBoundsException {
        checkKind(kind);
        return wastes[kind];
    }

    public double error() {
        int differences = 0;
        int sizes = 0;
        for (int i = 0; i < bins.size(); i++) {
            Bin it = bins.get(i);
            differences += Math.abs(it.forecast(day) - it.content);
            sizes += it.size;
        }
        return sizes == 0 ? 0.0 : (double) differences / (double) sizes;
    }

    public long digest() {
        long d = mix(DIGEST_START, day);
        d = mixRegion(d);
        d = mixBins(d);
        return mixTotals(d);
    }

    // ---- what the calls have in common

    private void checkPlace(int place) {
        if (place < 0 || place >= region.places) {
            throw new IndexOutOfBoundsException("no such place");
        }
    }

    private void checkKind(int kind) {
        if (kind < 0 || kind >= KINDS) {
            throw new IndexOutOfBoundsException("the kind is not 0 to 2");
        }
    }

    private void checkBin(int bin) {
        if (bin < 0 || bin >= bins.size()) {
            throw new IndexOutOfBoundsException("no such bin");
        }
    }

    private void checkRange(int value, int least, int most) {
        if (value < least || value > most) {
            throw new IllegalArgumentException("a number is out of its range");
        }
    }

    private void checkWorkday() {
        if (holidays[day]) {
            throw new IllegalStateException("today is a holiday");
        }
    }

    private int passOneDay() {
        day++;
        int overflows = 0;
        for (int i = 0; i < bins.size(); i++) {
            Bin it = bins.get(i);
            int waste = it.fill();
            wastes[it.kind] += waste;
            overflows += waste > 0 ? 1 : 0;
        }
        return overflows;
    }

    /** Makes the route that of today's plan for the kind. */
    private void planRoute(int kind) {
        int workday = nextWorkday();
        stops = 0;
        for (int i = 0; i < bins.size(); i++) {
            Bin it = bins.get(i);
            if (it.kind == kind && it.isDue(day, workday)) {
                route[stops] = i;
                stops++;
            }
        }
        int from = DEPOT;
        for (int i = 0; i < stops; i++) {
            int nearest = nearestStop(i, from);
            int number = route[nearest];
            route[nearest] = route[i];
            route[i] = number;
            from = bins.get(number).place;
        }
    }

    /** Where in the route, from first on, the bin stands that is to be driven to next. */
    private int nearestStop(int first, int from) {
        int nearest = first;
        int shortest = region.between(from, bins.get(route[first]).place);
        for (int i = first + 1; i < stops; i++) {
            int drive = region.between(from, bins.get(route[i]).place);
            // The numbers are compared because the swaps in the route unsort its rest.
            if (drive < shortest || (drive == shortest && route[i] < route[nearest])) {
                nearest = i;
                shortest = drive;
            }
        }
        return nearest;
    }

    /** Makes the tour of the route and books it. */
    private int makeTour(int kind, int capacity) {
        Tour tour = new Tour(region, kind, capacity);
        for (int i = 0; i < stops; i++) {
            Bin it = bins.get(route[i]);
            int taken = tour.visit(it);
            it.endVisit(taken, day);
        }
        tour.end();
        int row = kind * TOTALS;
        totals[row + TOTAL_LITRES] += tour.litres;
        totals[row + TOTAL_TIP_VISITS] += tour.tipVisits;
        totals[row + TOTAL_MINUTES] += tour.minutes;
        totals[row + TOTAL_TOURS]++;
        return tour.minutes;
    }

    private long mixRegion(long start) {
        long d = mix(start, region.places);
        for (int a = 0; a < region.places; a++) {
            for (int b = a + 1; b < region.places; b++) {
                d = mix(d, region.between(a, b));
            }
        }
        for (int place = 0; place < region.places; place++) {
            d = mix(d, region.tips[place]);
        }
        return d;
    }

    private long mixBins(long start) {
        long d = mix(start, bins.size());
        for (int i = 0; i < bins.size(); i++) {
            for (int what = 0; what < BIN_FACTS; what++) {
                d = mix(d, bins.get(i).fact(what));
            }
        }
        return d;
    }

    private long mixTotals(long start) {
        long d = start;
        for (int kind = 0; kind < KINDS; kind++) {
            for (int what = 0; what < TOTALS; what++) {
                d = mix(d, totals[kind * TOTALS + what]);
            }
            d = mix(d, wastes[kind]);
        }
        return d;
    }

    private static long mix(long d, long x) {
        return d * 31L + x;
    }

    /** The places, the minutes between them, and their tips. */
    private static final class Region {
        private final int[] minutes;
        /** For each place the kinds that it has a tip for, as a sum of powers 2^kind. */
        private final int[] tips;
        private int places;

        Region() {
            minutes = new int[MAX_PLACES * MAX_PLACES];
            for (int a = 0; a < MAX_PLACES; a++) {
                for (int b = 0; b < MAX_PLACES; b++) {
                    minutes[a * MAX_PLACES + b] = a == b ? 0 : DEFAULT_MINUTES;
                }
            }
            tips = new int[MAX_PLACES];
            tips[DEPOT] = ALL_KINDS;
            places = 1;
        }

        int add() {
            int number = places;
            places++;
            return number;
        }

        int between(int a, int b) {
            return minutes[a * MAX_PLACES + b];
        }

        void join(int a, int b, int drive) {
            minutes[a * MAX_PLACES + b] = drive;
            minutes[b * MAX_PLACES + a] = drive;
        }

        boolean hasTip(int place, int kind) {
            return (tips[place] >> kind & 1) == 1;
        }

        void putTip(int place, int kind, boolean isTip) {
            int mask = 1 << kind;
            tips[place] = isTip ? tips[place] | mask : tips[place] & ~mask;
        }

        int countTips(int kind) {
            int count = 0;
            for (int place = 0; place < places; place++) {
                count += hasTip(place, kind) ? 1 : 0;
            }
            return count;
        }

        /**
         * The minutes from one place over the best tip to another place. Which of several tips with
         * the same minutes it is shows nowhere, so the minutes are enough.
         */
        int overTip(int kind, int from, int to) {
            // There is always a tip, and no way over one is longer than two drives.
            int least = 2 * MAX_MINUTES;
            for (int tip = 0; tip < places; tip++) {
                if (hasTip(tip, kind)) {
                    least = Math.min(least, between(from, tip) + between(tip, to));
                }
            }
            return least;
        }
    }

    /** A bin, with what is in it and what is forecast of it. */
    private static final class Bin {
        private final int place;
        private final int kind;
        private final int size;
        private int growth;
        private int content;
        private int rate;
        private int emptiedOn;
        private int overflows;
        private int warnings;
        private boolean dirty;

        Bin(int place, int kind, int size, int growth, int day) {
            this.place = place;
            this.kind = kind;
            this.size = size;
            this.growth = growth;
            content = 0;
            rate = size / 2;
            emptiedOn = day;
            overflows = 0;
            warnings = 0;
            dirty = false;
        }

        int fact(int what) {
            switch (what) {
                case 0:
                    return place;
                case 1:
                    return kind;
                case 2:
                    return content;
                case 3:
                    return rate;
                case 4:
                    return emptiedOn;
                case 5:
                    return overflows;
                case 6:
                    return warnings;
                default:
                    return dirty ? 1 : 0;
            }
        }

        int forecast(int day) {
            return Math.min(size, rate * (day - emptiedOn) / 10);
        }

        boolean isFullOn(int day) {
            return forecast(day) == size;
        }

        boolean isDue(int day, int workday) {
            return 4 * forecast(day) >= 3 * size || isFullOn(workday);
        }

        /** Lets a day's growth come in; answers the litres that go to waste. */
        int fill() {
            int waste = Math.max(0, content + growth - size);
            content = content + growth - waste;
            overflows += waste > 0 ? 1 : 0;
            return waste;
        }

        /** What a visit leaves behind, when the lorry has taken so many litres. */
        void endVisit(int taken, int day) {
            if (dirty) {
                dirty = false;
                warnings++;
                return;
            }
            int days = day - emptiedOn;
            if (days > 0) {
                // What was found counts, even if not all of it had room in the lorry.
                int seen = 10 * content / days;
                rate = (rate * 3 + seen) / 4;
            }
            emptiedOn = day;
            content -= taken;
        }
    }

    /** A lorry under way. It looks at bins and changes none, so that a tour can be tried out. */
    private static final class Tour {
        private final Region region;
        private final int kind;
        private final int capacity;
        private int at;
        private int load;
        private int minutes;
        private int tipVisits;
        private int litres;

        Tour(Region region, int kind, int capacity) {
            this.region = region;
            this.kind = kind;
            this.capacity = capacity;
            at = DEPOT;
            load = 0;
            minutes = 0;
            tipVisits = 0;
            litres = 0;
        }

        /** Answers the litres that are taken from the bin. */
        int visit(Bin bin) {
            driveTo(bin.place);
            if (bin.dirty) {
                minutes += NOTING_MINUTES;
                return 0;
            }
            if (load > 0 && capacity - load < bin.content) {
                unloadOnTheWayTo(at);
            }
            minutes += EMPTYING_MINUTES;
            int taken = Math.min(bin.content, capacity - load);
            load += taken;
            return taken;
        }

        void end() {
            if (load > 0) {
                unloadOnTheWayTo(DEPOT);
            }
            driveTo(DEPOT);
        }

        private void driveTo(int next) {
            minutes += region.between(at, next);
            at = next;
        }

        private void unloadOnTheWayTo(int next) {
            minutes += region.overTip(kind, at, next) + TIPPING_MINUTES;
            tipVisits++;
            litres += load;
            load = 0;
            at = next;
        }
    }
}
