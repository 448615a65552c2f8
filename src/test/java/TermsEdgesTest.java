/** The boundary cases that the document names under 'Terms', of places, days, bins and forecasts. */
public final class TermsEdgesTest {
    private static final Check check = new Check();

    public static void main(String[] args) {
        anObjectIsUsedFor512Calls();
        places();
        days();
        bins();
        forecasts();
        overflows();
        check.end();
    }

    private static void places() {
        placesAreNumberedFrom0To9();
        theDepotIsThereFromTheBeginning();
        minutesAre1To120();
        minutesAreTheSameInBothDirections();
        minutesAre30WhileNotSet();
        theDepotHasAllTipsAtFirstAndOthersNone();
        aPlaceCanHaveATipForEachKind();
    }

    private static void days() {
        itIsDay0AtFirst();
        noTourOnAHoliday();
        anyDayCanBeAHoliday();
    }

    private static void bins() {
        binsAreNumberedFrom0To15();
        aBinStandsAtAnyPlaceButTheDepot();
        aSizeIs10To1000();
        aGrowthIs0To200();
        aBinIsEmptyAndCleanAtFirst();
    }

    private static void forecasts() {
        theRateIsAtFirstHalfTheSizeCut();
        aBinIsEmptiedLastWhenItIsMade();
        theExpectedContentIsCut();
        theExpectedContentIsNeverMoreThanTheSize();
    }

    private static void overflows() {
        aBinThatIsJustFullDoesNotOverflow();
        oneLitreTooMuchGoesToWaste();
        aFullBinOverflowsOnceADay();
        aFullBinWithoutGrowthDoesNotOverflow();
        theLargestGrowthIntoTheSmallestBin();
    }

    private static RefusePlanner oneBin(int size, int growth) {
        RefusePlanner x = Check.withPlaces(1);
        x.addBin(1, 0, size, growth);
        return x;
    }

    /** "An object is used for at most 512 calls after it has been made". */
    private static void anObjectIsUsedFor512Calls() {
        RefusePlanner x = Check.withPlaces(1);
        x.addBin(1, 0, 1000, 3);
        int calls = 2;
        while (calls < 510) {
            x.pass(1);
            x.fetch(0, 50);
            calls += 2;
        }
        // 254 days, on each of which a tour found the three litres of that day.
        check.due("bin(0, 4), the 511th call", x.bin(0, 4), 254);
        check.due("total(0, 0), the 512th call", x.total(0, 0), 762L);
    }

    // ---- places

    /** "There are at most 10, numbered from 0 in the order of their creation". */
    private static void placesAreNumberedFrom0To9() {
        RefusePlanner x = new RefusePlanner();
        for (int place = 1; place <= 9; place++) {
            check.due("addPlace()", x.addPlace(), place);
        }
        check.refused(x, "addPlace(), when there are ten", Check.STATE, () -> x.addPlace());
        check.due("addBin at the last place", x.addBin(9, 0, 10, 0), 0);
        check.due("bin(0, 0)", x.bin(0, 0), 9);
    }

    /** "place 0 is the depot, it is there from the beginning on". */
    private static void theDepotIsThereFromTheBeginning() {
        RefusePlanner x = new RefusePlanner();
        check.due("setTip(0, 0, true) on a new object", x.setTip(0, 0, true), true);
        check.due("addPlace() on a new object", x.addPlace(), 1);
    }

    /** "Between two places there is a number of minutes, 1 to 120". */
    private static void minutesAre1To120() {
        RefusePlanner x = oneBin(10, 0);
        x.setMinutes(0, 1, 1);
        check.due("fetch(0, 50), the shortest drive", x.fetch(0, 50), 1 + 5 + 1);
        x.setMinutes(0, 1, 120);
        check.due("fetch(0, 50), the longest drive", x.fetch(0, 50), 120 + 5 + 120);
        check.due("setMinutes(0, 1, 1)", x.setMinutes(0, 1, 1), 120);
        check.due("setMinutes(0, 1, 1) again", x.setMinutes(0, 1, 1), 1);
    }

    /** "the same in both directions". */
    private static void minutesAreTheSameInBothDirections() {
        RefusePlanner x = Check.withPlaces(9);
        check.due("setMinutes(0, 9, 7)", x.setMinutes(0, 9, 7), 30);
        check.due("setMinutes(9, 0, 8)", x.setMinutes(9, 0, 8), 7);
        check.due("setMinutes(9, 8, 5)", x.setMinutes(9, 8, 5), 30);
        check.due("setMinutes(8, 9, 5)", x.setMinutes(8, 9, 5), 5);
        check.due("setMinutes(0, 9, 8)", x.setMinutes(0, 9, 8), 8);
    }

    /** "it is 30 as long as it is not set". */
    private static void minutesAre30WhileNotSet() {
        RefusePlanner x = Check.withPlaces(9);
        for (int a = 0; a <= 9; a++) {
            for (int b = a + 1; b <= 9; b++) {
                check.due("setMinutes(" + a + ", " + b + ", 1), the first time", x.setMinutes(a, b, 1), 30);
            }
        }
    }

    /** "A place can have a tip for each kind of refuse (the depot has all three, at first; others none)." */
    private static void theDepotHasAllTipsAtFirstAndOthersNone() {
        RefusePlanner x = Check.withPlaces(9);
        for (int place = 0; place <= 9; place++) {
            for (int kind = 0; kind < 3; kind++) {
                check.due("a tip at " + place + " at first", x.setTip(place, kind, place == 0), place == 0);
            }
        }
    }

    private static void aPlaceCanHaveATipForEachKind() {
        RefusePlanner x = Check.withPlaces(1);
        for (int kind = 0; kind < 3; kind++) {
            check.due("setTip(1, " + kind + ", true)", x.setTip(1, kind, true), false);
        }
        for (int kind = 0; kind < 3; kind++) {
            check.due("setTip(0, " + kind + ", false)", x.setTip(0, kind, false), true);
            check.due("setTip(1, " + kind + ", true) again", x.setTip(1, kind, true), true);
        }
    }

    // ---- days

    /** "It is some day, at first day 0." */
    private static void itIsDay0AtFirst() {
        RefusePlanner x = oneBin(10, 0);
        check.due("today()", x.today(), 0);
        check.due("bin(0, 4)", x.bin(0, 4), 0);
        check.due("expected(0, 0)", x.expected(0, 0), 0);
    }

    /** "On a holiday no tour can be made." */
    private static void noTourOnAHoliday() {
        RefusePlanner x = oneBin(10, 1);
        x.setHoliday(0, true);
        check.refused(x, "fetch(0, 50) on day 0, a holiday", Check.STATE, () -> x.fetch(0, 50));
        check.refused(x, "collect(0, 50) on day 0, a holiday", Check.STATE, () -> x.collect(0, 50));
        x.setHoliday(0, false);
        check.due("fetch(0, 50), a holiday no more", x.fetch(0, 50), 65);
        x.setHoliday(20, true);
        Check.onDay(x, 20);
        check.refused(x, "fetch(0, 50) on day 20, a holiday", Check.STATE, () -> x.fetch(0, 50));
        check.refused(x, "collect(0, 50) on day 20, a holiday", Check.STATE, () -> x.collect(0, 50));
        x.pass(1);
        check.due("collect(0, 50) behind the holiday", x.collect(0, 50), 75);
    }

    /** "There can be a holiday on any of the days 0 to 399 (none, at first)." */
    private static void anyDayCanBeAHoliday() {
        RefusePlanner x = new RefusePlanner();
        for (int day = 0; day < 400; day++) {
            check.due("setHoliday(" + day + ", true)", x.setHoliday(day, true), false);
        }
        check.due("nextWorkday(), 400 holidays", x.nextWorkday(), 400);
        check.refused(x, "setHoliday(400, true)", Check.INDEX, () -> x.setHoliday(400, true));
        check.refused(x, "setHoliday(-1, true)", Check.INDEX, () -> x.setHoliday(-1, true));
        for (int day = 0; day < 100; day++) {
            check.due("setHoliday(" + day + ", false)", x.setHoliday(day, false), true);
        }
        check.due("nextWorkday(), the first 100 days free", x.nextWorkday(), 1);
    }

    // ---- bins

    /** "There are at most 16, numbered from 0 in the order of their creation." */
    private static void binsAreNumberedFrom0To15() {
        RefusePlanner x = Check.withPlaces(1);
        for (int bin = 0; bin < 16; bin++) {
            check.due("addBin", x.addBin(1, 0, 10 + 2 * bin, 0), bin);
        }
        check.refused(x, "addBin, when there are sixteen", Check.STATE, () -> x.addBin(1, 0, 10, 0));
        for (int bin = 0; bin < 16; bin++) {
            check.due("bin(" + bin + ", 3)", x.bin(bin, 3), 5 + bin);
        }
    }

    /** "A bin stands at a place other than the depot, is for a kind of refuse, 0 to 2". */
    private static void aBinStandsAtAnyPlaceButTheDepot() {
        RefusePlanner x = Check.withPlaces(9);
        check.refused(x, "addBin(0, 0, 10, 0)", Check.INDEX, () -> x.addBin(0, 0, 10, 0));
        for (int place = 1; place <= 9; place++) {
            int bin = x.addBin(place, place % 3, 10, 0);
            check.dueFacts(x, bin, place, place % 3);
        }
    }

    /** "and has a size, 10 to 1000 litres". */
    private static void aSizeIs10To1000() {
        RefusePlanner x = Check.withPlaces(1);
        x.addBin(1, 0, 10, 200);
        x.addBin(1, 0, 1000, 200);
        x.pass(5);
        check.due("bin(0, 2), the smallest bin", x.bin(0, 2), 10);
        check.due("bin(1, 2), the largest bin just full", x.bin(1, 2), 1000);
        check.due("bin(1, 5)", x.bin(1, 5), 0);
        x.pass(1);
        check.due("bin(1, 2), the largest bin too full", x.bin(1, 2), 1000);
        check.due("bin(1, 5)", x.bin(1, 5), 1);
    }

    /** "a true growth, the litres that come into it each day, 0 to 200". */
    private static void aGrowthIs0To200() {
        RefusePlanner x = Check.withPlaces(1);
        x.addBin(1, 0, 1000, 0);
        x.addBin(1, 0, 1000, 200);
        x.pass(1);
        check.due("bin(0, 2), the least growth", x.bin(0, 2), 0);
        check.due("bin(1, 2), the most growth", x.bin(1, 2), 200);
        x.pass(3);
        check.due("bin(0, 2), the least growth", x.bin(0, 2), 0);
        check.due("bin(1, 2), the most growth", x.bin(1, 2), 800);
    }

    /** "It has a content, in litres, at first 0 ... It can be dirty (not, at first)". */
    private static void aBinIsEmptyAndCleanAtFirst() {
        RefusePlanner x = Check.onDay(oneBin(100, 200), 3);
        x.addBin(1, 0, 100, 200);
        check.dueFacts(x, 0, 1, 0, 100, 50, 0, 3, 0, 0);
        check.dueFacts(x, 1, 1, 0, 0, 50, 3, 0, 0, 0);
    }

    // ---- forecasts

    /** "a rate, in tenths of a litre a day (at first half as many as its size has litres, cut towards 0)". */
    private static void theRateIsAtFirstHalfTheSizeCut() {
        check.due("bin(0, 3) of 10 litres", oneBin(10, 200).bin(0, 3), 5);
        check.due("bin(0, 3) of 11 litres", oneBin(11, 0).bin(0, 3), 5);
        check.due("bin(0, 3) of 12 litres", oneBin(12, 0).bin(0, 3), 6);
        check.due("bin(0, 3) of 999 litres", oneBin(999, 0).bin(0, 3), 499);
        check.due("bin(0, 3) of 1000 litres", oneBin(1000, 0).bin(0, 3), 500);
    }

    /** "the day on which it was emptied last (at first the day on which it was made)". */
    private static void aBinIsEmptiedLastWhenItIsMade() {
        for (int day : new int[] {0, 1, 398, 399}) {
            RefusePlanner x = Check.onDay(Check.withPlaces(1), day);
            x.addBin(1, 0, 100, 9);
            check.due("bin(0, 4), made on day " + day, x.bin(0, 4), day);
            check.due("expected(0, " + day + ")", x.expected(0, day), 0);
            check.due("expected(0, " + (day + 1) + ")", x.expected(0, day + 1), 5);
            check.due("fullOn(0), made on day " + day, x.fullOn(0), day + 20);
        }
    }

    /** "its rate times the days since then, divided by 10 (cut towards 0)". */
    private static void theExpectedContentIsCut() {
        RefusePlanner x = oneBin(18, 0);
        check.due("expected(0, 0), 0", x.expected(0, 0), 0);
        check.due("expected(0, 1), 0.9", x.expected(0, 1), 0);
        check.due("expected(0, 2), 1.8", x.expected(0, 2), 1);
        check.due("expected(0, 10), 9", x.expected(0, 10), 9);
        check.due("expected(0, 11), 9.9", x.expected(0, 11), 9);
    }

    /** "it is never more than its size". */
    private static void theExpectedContentIsNeverMoreThanTheSize() {
        RefusePlanner x = oneBin(11, 0);
        check.due("expected(0, 21), 10.5", x.expected(0, 21), 10);
        check.due("expected(0, 22), 11", x.expected(0, 22), 11);
        check.due("expected(0, 23), 11.5", x.expected(0, 23), 11);
        check.due("expected(0, 24), 12", x.expected(0, 24), 11);
        check.due("expected(0, 999)", x.expected(0, 999), 11);
        RefusePlanner y = oneBin(1000, 200);
        Check.onDay(y, 5);
        y.fetch(0, 50);
        y.pass(1);
        y.fetch(0, 50);
        // A high rate: 1000 litres found on day 5, 50 of them taken, and 1000 found again on day 6.
        check.due("bin(0, 3)", y.bin(0, 3), ((500 * 3 + 2000) / 4 * 3 + 10000) / 4);
        check.due("expected(0, 6)", y.expected(0, 6), 0);
        check.due("expected(0, 7)", y.expected(0, 7), 315);
        check.due("expected(0, 999)", y.expected(0, 999), 1000);
    }

    // ---- overflows

    /** "what is more than its size then goes to waste": nothing is, when it is just full. */
    private static void aBinThatIsJustFullDoesNotOverflow() {
        RefusePlanner x = oneBin(20, 10);
        check.due("pass(2), just full", x.pass(2), 0);
        check.due("bin(0, 2)", x.bin(0, 2), 20);
        check.due("bin(0, 5)", x.bin(0, 5), 0);
        check.due("wasted(0)", x.wasted(0), 0L);
    }

    /** "the content is the size, and the bin has one more overflow for that day". */
    private static void oneLitreTooMuchGoesToWaste() {
        RefusePlanner x = oneBin(19, 10);
        check.due("pass(1)", x.pass(1), 0);
        check.due("pass(1), a litre too much", x.pass(1), 1);
        check.due("bin(0, 2)", x.bin(0, 2), 19);
        check.due("bin(0, 5)", x.bin(0, 5), 1);
        check.due("wasted(0)", x.wasted(0), 1L);
    }

    private static void aFullBinOverflowsOnceADay() {
        RefusePlanner x = oneBin(20, 10);
        x.pass(2);
        check.due("pass(3), full already", x.pass(3), 3);
        check.due("bin(0, 2)", x.bin(0, 2), 20);
        check.due("bin(0, 5)", x.bin(0, 5), 3);
        check.due("wasted(0)", x.wasted(0), 30L);
    }

    private static void aFullBinWithoutGrowthDoesNotOverflow() {
        RefusePlanner x = oneBin(20, 10);
        x.pass(2);
        x.setGrowth(0, 0);
        check.due("pass(60), full and without growth", x.pass(60), 0);
        check.due("bin(0, 2)", x.bin(0, 2), 20);
        check.due("bin(0, 5)", x.bin(0, 5), 0);
        check.due("wasted(0)", x.wasted(0), 0L);
    }

    private static void theLargestGrowthIntoTheSmallestBin() {
        RefusePlanner x = oneBin(10, 200);
        check.due("pass(2)", x.pass(2), 2);
        check.due("bin(0, 2)", x.bin(0, 2), 10);
        check.due("wasted(0)", x.wasted(0), 390L);
    }
}
