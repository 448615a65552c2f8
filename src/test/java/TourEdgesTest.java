/** The boundary cases that the document names under 'Terms', of tours and of plans. */
public final class TourEdgesTest {
    private static final Check check = new Check();

    public static void main(String[] args) {
        driving();
        room();
        dirtyBins();
        theEnd();
        rates();
        plans();
        check.end();
    }

    private static void driving() {
        eachTourBeginsWithAnEmptyLorry();
        noMinutesIfTheLorryIsThere();
    }

    private static void room() {
        justEnoughRoomNeedsNoTip();
        oneLitreOfRoomTooLittleNeedsATip();
        anEmptyLorryIsTooSmallAndNeedsNoTip();
        oneLitreInTheLorryIsALoad();
        aFullLorryTakesAnEmptyBin();
        theTipIsTheOneForThereAndBack();
        theTipCanBeHere();
        theTipCanBeAtTheLastOfTenPlaces();
        onlyATipForThisKind();
        anEmptyBinIsEmptiedAllTheSame();
        aContentThatIsJustTheCapacity();
        oneLitreMoreThanTheCapacityStays();
        whatHasRoomBehindATip();
    }

    private static void dirtyBins() {
        aDirtyBinIsNoted();
        aDirtyBinIsNotDirtyAnyMore();
        aFullLorryAtADirtyBinNeedsNoTip();
        anEmptyDirtyBinIsNoted();
    }

    private static void theEnd() {
        anEmptyLorryGoesHomeAtOnce();
        oneLitreIsBroughtToATip();
        theLastTipLiesOnTheWayHome();
        theLastTipIsHere();
        theLastTipIsTheDepot();
    }

    private static void rates() {
        seenAndTheRateAreCut();
        onTheSameDayTheRateStays();
        aDayLaterItDoesNot();
        theRateFallsTo0();
        whatStayedIsFoundAgain();
    }

    private static void plans() {
        justThreeQuartersAreDue();
        threeQuartersOfAnOddSize();
        fullOnTheNextWorkday();
        theNextWorkdayBehindTheLastDay();
        noBinIsDue();
        sixteenBinsAreDue();
        theDriveOf0MinutesIsTheShortest();
        ofSeveralTheSmallestNumber();
        theDepotComesBeforeTheFirst();
    }

    /** Bins of kind 0 at place 1, all of these sizes, with these contents on the day that they are due. */
    private static RefusePlanner dueWith(int size, int... contents) {
        RefusePlanner x = Check.withPlaces(1);
        for (int i = 0; i < contents.length; i++) {
            x.addBin(1, 0, size, 0);
        }
        x.pass(14);
        fill(x, contents);
        return x;
    }

    /** Lets a day pass on which so much comes into the bins, and nothing from then on. */
    private static void fill(RefusePlanner x, int... litres) {
        for (int i = 0; i < litres.length; i++) {
            x.setGrowth(i, litres[i]);
        }
        x.pass(1);
        for (int i = 0; i < litres.length; i++) {
            x.setGrowth(i, 0);
        }
    }

    // ---- driving

    /** "It begins at the depot with an empty lorry of a capacity". */
    private static void eachTourBeginsWithAnEmptyLorry() {
        RefusePlanner x = dueWith(100, 60, 60);
        check.due("fetch(0, 60)", x.fetch(0, 60), 30 + 5 + 10 + 30);
        check.due("fetch(1, 60)", x.fetch(1, 60), 30 + 5 + 10 + 30);
        check.dueTotals(x, 0, 120, 2, 150, 2);
    }

    /** "the lorry drives to the place of the next bin (no minutes, if it is there)". */
    private static void noMinutesIfTheLorryIsThere() {
        RefusePlanner x = dueWith(100, 1, 1, 1, 1);
        check.due("collect(0, 50), four bins at one place", x.collect(0, 50), 30 + 4 * 5 + 10 + 30);
    }

    // ---- room

    /** "has less room than the bin's content": not, if the room is just the content. */
    private static void justEnoughRoomNeedsNoTip() {
        RefusePlanner x = dueWith(100, 60, 40);
        check.due("collect(0, 100), just enough room", x.collect(0, 100), 30 + 5 + 5 + 10 + 30);
        check.dueTotals(x, 0, 100, 1, 80, 1);
    }

    private static void oneLitreOfRoomTooLittleNeedsATip() {
        RefusePlanner x = dueWith(100, 60, 40);
        check.due("collect(0, 99), a litre too little", x.collect(0, 99), 30 + 5 + (30 + 10 + 30) + 5 + 10 + 30);
        check.dueTotals(x, 0, 100, 2, 150, 1);
        check.dueFacts(x, 1, 1, 0, 0);
    }

    /** "if the lorry, when it is there, is not empty": an empty one does not drive to a tip first. */
    private static void anEmptyLorryIsTooSmallAndNeedsNoTip() {
        RefusePlanner x = dueWith(100, 100);
        check.due("collect(0, 50), too small", x.collect(0, 50), 30 + 5 + 10 + 30);
        check.dueTotals(x, 0, 50, 1, 75, 1);
        RefusePlanner y = dueWith(100, 0, 100);
        check.due("collect(0, 50), empty at the second bin", y.collect(0, 50), 30 + 5 + 5 + 10 + 30);
        check.dueTotals(y, 0, 50, 1, 80, 1);
    }

    private static void oneLitreInTheLorryIsALoad() {
        RefusePlanner x = dueWith(100, 1, 50);
        check.due("collect(0, 50)", x.collect(0, 50), 30 + 5 + (30 + 10 + 30) + 5 + 10 + 30);
        check.dueTotals(x, 0, 51, 2, 150, 1);
    }

    private static void aFullLorryTakesAnEmptyBin() {
        RefusePlanner x = dueWith(100, 50, 0, 1);
        check.due("collect(0, 50)", x.collect(0, 50), 30 + 5 + 5 + (30 + 10 + 30) + 5 + 10 + 30);
        check.dueTotals(x, 0, 51, 2, 155, 1);
    }

    /** "the one for which the minutes to it and back again together are least". */
    private static void theTipIsTheOneForThereAndBack() {
        RefusePlanner x = Check.withPlaces(3);
        x.addBin(1, 0, 100, 10);
        x.addBin(1, 0, 100, 10);
        x.setTip(2, 0, true);
        x.setTip(3, 0, true);
        x.setMinutes(1, 2, 7);
        x.setMinutes(1, 3, 6);
        x.setMinutes(0, 2, 1);
        x.setMinutes(0, 3, 120);
        x.pass(15);
        // There and back over 3 (6 + 6), and home over 2 (7 + 1).
        check.due("wouldTake(0, 100)", x.wouldTake(0, 100), 30 + 5 + (6 + 10 + 6) + 5 + (7 + 10 + 1));
        x.setMinutes(1, 3, 7);
        check.due("wouldTake(0, 100), two tips as near", x.wouldTake(0, 100), 30 + 5 + (7 + 10 + 7) + 5 + (7 + 10 + 1));
        x.setMinutes(1, 3, 8);
        check.due("wouldTake(0, 100), the other is nearer", x.wouldTake(0, 100), 30 + 5 + (7 + 10 + 7) + 5 + (7 + 10 + 1));
    }

    /** "it can be here: then it takes no minutes to drive". */
    private static void theTipCanBeHere() {
        RefusePlanner x = dueWith(100, 60, 60);
        x.setTip(1, 0, true);
        check.due("collect(0, 60), a tip here", x.collect(0, 60), 30 + 5 + 10 + 5 + 10 + 30);
        check.dueTotals(x, 0, 120, 2, 90, 1);
    }

    private static void theTipCanBeAtTheLastOfTenPlaces() {
        RefusePlanner x = dueWith(100, 60, 60);
        for (int place = 2; place <= 9; place++) {
            x.addPlace();
        }
        x.setMinutes(1, 9, 3);
        x.setMinutes(9, 0, 4);
        check.due("wouldTake(0, 60), no tip but the depot's", x.wouldTake(0, 60), 30 + 5 + (30 + 10 + 30) + 5 + 10 + 30);
        x.setTip(9, 0, true);
        check.due("collect(0, 60), a tip at place 9", x.collect(0, 60), 30 + 5 + (3 + 10 + 3) + 5 + (3 + 10 + 4));
    }

    /** "it first drives to a tip for this kind". */
    private static void onlyATipForThisKind() {
        RefusePlanner x = dueWith(100, 60, 60);
        x.setTip(1, 1, true);
        x.setTip(1, 2, true);
        check.due("collect(0, 60), tips for others here", x.collect(0, 60), 30 + 5 + (30 + 10 + 30) + 5 + 10 + 30);
    }

    /** "A bin whose content is 0 is emptied all the same." */
    private static void anEmptyBinIsEmptiedAllTheSame() {
        RefusePlanner x = dueWith(100, 0);
        check.due("collect(0, 50), an empty bin", x.collect(0, 50), 30 + 5 + 30);
        // seen 0; 50 * 3 / 4 = 37
        check.dueFacts(x, 0, 1, 0, 0, 37, 15, 0, 0, 0);
        check.dueTotals(x, 0, 0, 0, 65, 1);
    }

    /** "If a bin's content is more than the room of the empty lorry": not, if it is just the room. */
    private static void aContentThatIsJustTheCapacity() {
        RefusePlanner x = dueWith(100, 50);
        x.collect(0, 50);
        check.due("bin(0, 2), just the capacity", x.bin(0, 2), 0);
        check.dueTotals(x, 0, 50, 1, 75, 1);
        RefusePlanner y = Check.withPlaces(1);
        y.addBin(1, 0, 1000, 200);
        y.pass(5);
        y.fetch(0, 1000);
        check.due("bin(0, 2), the largest bin", y.bin(0, 2), 0);
    }

    /** "what has room is taken, and the rest stays in the bin". */
    private static void oneLitreMoreThanTheCapacityStays() {
        RefusePlanner x = dueWith(100, 51);
        x.collect(0, 50);
        check.due("bin(0, 2), a litre stays", x.bin(0, 2), 1);
        check.due("bin(0, 4), emptied all the same", x.bin(0, 4), 15);
        // seen 10 * 51 / 15 = 34; (50 * 3 + 34) / 4 = 46
        check.due("bin(0, 3), of all that was found", x.bin(0, 3), 46);
        check.dueTotals(x, 0, 50, 1, 75, 1);
    }

    private static void whatHasRoomBehindATip() {
        RefusePlanner x = dueWith(100, 10, 80, 5);
        // At the second bin first to a tip, then 50 of 80; so the lorry is full at the third.
        check.due("collect(0, 50)", x.collect(0, 50), 30 + 5 + 70 + 5 + 70 + 5 + 10 + 30);
        check.due("bin(1, 2)", x.bin(1, 2), 30);
        check.due("bin(2, 2)", x.bin(2, 2), 0);
        check.dueTotals(x, 0, 65, 3, 225, 1);
    }

    // ---- dirty bins

    /** "A dirty bin is not emptied: it is noted, in 2 minutes". */
    private static void aDirtyBinIsNoted() {
        RefusePlanner x = dueWith(100, 30);
        x.soil(0);
        check.due("collect(0, 50), a dirty bin", x.collect(0, 50), 30 + 2 + 30);
        check.dueFacts(x, 0, 1, 0, 30, 50, 0, 0, 1, 0);
        check.dueTotals(x, 0, 0, 0, 62, 1);
    }

    /** "and from then on it is not dirty any more; it has one more warning". */
    private static void aDirtyBinIsNotDirtyAnyMore() {
        RefusePlanner x = dueWith(100, 30);
        x.soil(0);
        x.soil(0);
        x.fetch(0, 50);
        check.due("bin(0, 6), soiled twice, noted once", x.bin(0, 6), 1);
        check.due("fetch(0, 50), clean", x.fetch(0, 50), 30 + 5 + 10 + 30);
        check.due("bin(0, 6), clean bins get no warning", x.bin(0, 6), 1);
        x.soil(0);
        x.fetch(0, 50);
        check.dueFacts(x, 0, 1, 0, 0, 42, 15, 0, 2, 0);
    }

    /** "For this the lorry drives to its place, but never to a tip." */
    private static void aFullLorryAtADirtyBinNeedsNoTip() {
        RefusePlanner x = dueWith(100, 50, 100, 0);
        x.soil(1);
        check.due("collect(0, 50)", x.collect(0, 50), 30 + 5 + 2 + 5 + 10 + 30);
        check.due("bin(1, 2)", x.bin(1, 2), 100);
        check.dueTotals(x, 0, 50, 1, 82, 1);
        RefusePlanner y = Check.withPlaces(2);
        y.setMinutes(0, 2, 40);
        y.setMinutes(1, 2, 9);
        y.addBin(1, 0, 100, 10);
        y.addBin(2, 0, 100, 10);
        y.pass(15);
        y.soil(1);
        check.due("collect(0, 100), the last one dirty", y.collect(0, 100), 30 + 5 + 9 + 2 + 40 + 10);
    }

    private static void anEmptyDirtyBinIsNoted() {
        RefusePlanner x = dueWith(100, 0);
        x.soil(0);
        check.due("fetch(0, 5000), dirty and empty", x.fetch(0, 5000), 30 + 2 + 30);
        check.dueFacts(x, 0, 1, 0, 0, 50, 0, 0, 1, 0);
    }

    // ---- the end of a tour

    /** A bin at place 1, and the only tip 120 minutes from it. */
    private static RefusePlanner farTip() {
        RefusePlanner x = Check.withPlaces(2);
        x.addBin(1, 0, 100, 0);
        x.setTip(2, 0, true);
        x.setTip(0, 0, false);
        x.setMinutes(1, 2, 120);
        return x;
    }

    /** "then (or if it is empty, at once) to the depot". */
    private static void anEmptyLorryGoesHomeAtOnce() {
        RefusePlanner x = farTip();
        check.due("fetch(0, 50), nothing for the tip", x.fetch(0, 50), 30 + 5 + 30);
        check.dueTotals(x, 0, 0, 0, 65, 1);
    }

    /** "At the end the lorry drives to the tip ..., if it is not empty, and is emptied there, in 10 minutes". */
    private static void oneLitreIsBroughtToATip() {
        RefusePlanner x = farTip();
        fill(x, 1);
        check.due("fetch(0, 50), a litre for the tip", x.fetch(0, 50), 30 + 5 + 120 + 10 + 30);
        check.dueTotals(x, 0, 1, 1, 195, 1);
    }

    /** "the tip for which the minutes to it, and from there to the depot, together are least". */
    private static void theLastTipLiesOnTheWayHome() {
        RefusePlanner x = Check.withPlaces(3);
        x.addBin(1, 0, 100, 1);
        x.setTip(2, 0, true);
        x.setTip(3, 0, true);
        x.setMinutes(0, 1, 31);
        x.setMinutes(1, 2, 1);
        x.setMinutes(2, 0, 30);
        x.setMinutes(1, 3, 20);
        x.setMinutes(3, 0, 11);
        check.due("three tips as good", fetchTakes(x), 31 + 5 + 31 + 10);
        x.setMinutes(2, 0, 29);
        check.due("the tip at 2 a minute better", fetchTakes(x), 31 + 5 + 30 + 10);
        x.setMinutes(3, 0, 9);
        check.due("the tip at 3 a minute better", fetchTakes(x), 31 + 5 + 29 + 10);
        x.setMinutes(0, 1, 28);
        check.due("the depot's tip a minute better", fetchTakes(x), 28 + 5 + 28 + 10);
    }

    /** Lets a day pass and fetches the litre that it brought. */
    private static int fetchTakes(RefusePlanner x) {
        x.pass(1);
        return x.fetch(0, 50);
    }

    private static void theLastTipIsHere() {
        RefusePlanner x = Check.withPlaces(1);
        x.addBin(1, 0, 100, 1);
        x.setTip(1, 0, true);
        x.setTip(0, 0, false);
        check.due("a tip here and none at the depot", fetchTakes(x), 30 + 5 + 10 + 30);
        check.dueTotals(x, 0, 1, 1, 75, 1);
    }

    private static void theLastTipIsTheDepot() {
        RefusePlanner x = Check.withPlaces(2);
        x.addBin(1, 0, 100, 1);
        x.setTip(2, 0, true);
        x.setMinutes(1, 2, 1);
        check.due("a near tip is no shorter way home", fetchTakes(x), 30 + 5 + 30 + 10);
        check.dueTotals(x, 0, 1, 1, 75, 1);
    }

    // ---- rates

    /** "(rate * 3 + seen) / 4 (cut towards 0), where seen is ... (cut towards 0)". */
    private static void seenAndTheRateAreCut() {
        RefusePlanner x = Check.withPlaces(1);
        x.addBin(1, 0, 11, 0);
        x.pass(2);
        fill(x, 11);
        x.fetch(0, 50);
        // seen 110 / 3 = 36.67; (5 * 3 + 36) / 4 = 12.75; with a seen of 37 it would be 13
        check.due("bin(0, 3)", x.bin(0, 3), 12);
        x.pass(7);
        fill(x, 6);
        x.fetch(0, 50);
        // seen 60 / 8 = 7.5; (12 * 3 + 7) / 4 = 10.75; with a seen of 8 it would be 11
        check.due("bin(0, 3)", x.bin(0, 3), 10);
    }

    /** "if there are no such days, the rate stays so". */
    private static void onTheSameDayTheRateStays() {
        RefusePlanner x = Check.withPlaces(1);
        x.addBin(1, 0, 100, 60);
        x.fetch(0, 50);
        check.dueFacts(x, 0, 1, 0, 0, 50, 0);
        x.pass(1);
        x.fetch(0, 50);
        // seen 600; (50 * 3 + 600) / 4 = 187
        check.dueFacts(x, 0, 1, 0, 10, 187, 1);
        x.fetch(0, 50);
        check.dueFacts(x, 0, 1, 0, 0, 187, 1);
        x.fetch(0, 50);
        check.dueFacts(x, 0, 1, 0, 0, 187, 1);
    }

    /** "Then the day on which it was emptied last is this day." */
    private static void aDayLaterItDoesNot() {
        RefusePlanner x = Check.withPlaces(1);
        x.addBin(1, 0, 100, 0);
        x.pass(1);
        x.fetch(0, 50);
        check.dueFacts(x, 0, 1, 0, 0, 37, 1);
        x.pass(1);
        x.fetch(0, 50);
        check.dueFacts(x, 0, 1, 0, 0, 27, 2);
        RefusePlanner y = Check.onDay(Check.withPlaces(1), 398);
        y.addBin(1, 0, 100, 4);
        y.pass(1);
        y.fetch(0, 50);
        check.dueFacts(y, 0, 1, 0, 0, 47, 399);
    }

    private static void theRateFallsTo0() {
        RefusePlanner x = Check.withPlaces(1);
        x.addBin(1, 0, 10, 0);
        for (int rate : new int[] {3, 2, 1, 0, 0}) {
            x.pass(1);
            x.fetch(0, 50);
            check.due("bin(0, 3)", x.bin(0, 3), rate);
        }
        check.due("expected(0, 999), a rate of 0", x.expected(0, 999), 0);
        fill(x, 1);
        x.fetch(0, 50);
        check.due("bin(0, 3), from 0 on", x.bin(0, 3), 2);
    }

    private static void whatStayedIsFoundAgain() {
        RefusePlanner x = dueWith(100, 100);
        x.fetch(0, 60);
        // seen 1000 / 15 = 66; (150 + 66) / 4 = 54
        check.dueFacts(x, 0, 1, 0, 40, 54, 15);
        x.pass(2);
        x.fetch(0, 60);
        // seen 400 / 2 = 200; (162 + 200) / 4 = 90
        check.dueFacts(x, 0, 1, 0, 0, 90, 17);
    }

    // ---- plans

    /** "at least three quarters of their size (4 times the content at least 3 times the size)". */
    private static void justThreeQuartersAreDue() {
        RefusePlanner x = Check.withPlaces(1);
        x.addBin(1, 0, 100, 0);
        x.pass(14);
        check.due("expected(0, 14)", x.expected(0, 14), 70);
        check.due("planSize(0), less than three quarters", x.planSize(0), 0);
        x.pass(1);
        check.due("expected(0, 15)", x.expected(0, 15), 75);
        check.due("planSize(0), just three quarters", x.planSize(0), 1);
    }

    private static void threeQuartersOfAnOddSize() {
        RefusePlanner x = Check.withPlaces(1);
        x.addBin(1, 0, 10, 0);
        x.addBin(1, 1, 11, 0);
        x.addBin(1, 2, 13, 0);
        // Three quarters of 10 are 7.5, of 11 8.25, of 13 9.75; the rates are 5, 5 and 6.
        x.pass(15);
        check.due("planSize(0), 7 litres", x.planSize(0), 0);
        x.pass(1);
        check.due("planSize(0), 8 litres", x.planSize(0), 1);
        check.due("planSize(2), 9 litres", x.planSize(2), 0);
        x.pass(1);
        check.due("planSize(1), 8 litres", x.planSize(1), 0);
        check.due("planSize(2), 10 litres", x.planSize(2), 1);
        x.pass(1);
        check.due("planSize(1), 9 litres", x.planSize(1), 1);
    }

    /** "or on the next day that is not a holiday would be their size". */
    private static void fullOnTheNextWorkday() {
        RefusePlanner x = Check.withPlaces(1);
        x.addBin(1, 0, 100, 0);
        for (int day = 1; day < 19; day++) {
            x.setHoliday(day, true);
        }
        check.due("planSize(0), 95 litres on the next workday", x.planSize(0), 0);
        x.setHoliday(19, true);
        check.due("planSize(0), full on the next workday", x.planSize(0), 1);
        x.setHoliday(0, true);
        check.due("planSize(0), on a holiday", x.planSize(0), 1);
        x.setHoliday(1, false);
        check.due("planSize(0), a workday before it is full", x.planSize(0), 0);
    }

    /** "(days from 400 on are none)", so that the plan of day 399 looks at day 400. */
    private static void theNextWorkdayBehindTheLastDay() {
        RefusePlanner x = Check.onDay(Check.withPlaces(1), 380);
        x.addBin(1, 0, 100, 0);
        x.addBin(1, 1, 102, 0);
        x.addBin(1, 2, 101, 0);
        check.due("planSize(0) on day 380", x.planSize(0), 0);
        for (int day = 381; day < 400; day++) {
            x.setHoliday(day, true);
        }
        // On day 400 there are 20 * 5, 20 * 5.1 and 20 * 5 litres.
        check.due("planSize(0), full on day 400", x.planSize(0), 1);
        check.due("planSize(1), full on day 400", x.planSize(1), 1);
        check.due("planSize(2), a litre less", x.planSize(2), 0);
        Check.onDay(x, 399);
        check.due("planSize(2) on day 399", x.planSize(2), 1);
    }

    private static void noBinIsDue() {
        RefusePlanner x = new RefusePlanner();
        check.duePlan(x, 0);
        x.addPlace();
        x.addBin(1, 0, 100, 200);
        check.duePlan(x, 0);
        Check.onDay(x, 14);
        check.due("bin(0, 2), full but not expected to be", x.bin(0, 2), 100);
        check.duePlan(x, 0);
    }

    private static void sixteenBinsAreDue() {
        RefusePlanner x = Check.withPlaces(1);
        for (int bin = 0; bin < 16; bin++) {
            x.addBin(1, 2, 100, 3);
        }
        x.pass(15);
        check.duePlan(x, 2, 0, 1, 2, 3, 4, 5, 6, 7, 8, 9, 10, 11, 12, 13, 14, 15);
        check.due("collect(2, 720)", x.collect(2, 720), 30 + 16 * 5 + 10 + 30);
        check.dueTotals(x, 2, 720, 1, 150, 1);
    }

    /** "the next one is that to whose place the drive ... is shortest": none is the shortest. */
    private static void theDriveOf0MinutesIsTheShortest() {
        RefusePlanner x = Check.withPlaces(2);
        x.setMinutes(1, 2, 1);
        x.addBin(1, 0, 20, 0);
        x.addBin(2, 0, 20, 0);
        x.addBin(1, 0, 20, 0);
        x.addBin(2, 0, 20, 0);
        x.pass(15);
        check.duePlan(x, 0, 0, 2, 1, 3);
    }

    /** "of several that with the smallest number". */
    private static void ofSeveralTheSmallestNumber() {
        RefusePlanner x = Check.withPlaces(3);
        x.addBin(3, 0, 20, 0);
        x.addBin(2, 0, 20, 0);
        x.addBin(1, 0, 20, 0);
        x.pass(15);
        check.duePlan(x, 0, 0, 1, 2);
        x.setMinutes(0, 1, 29);
        check.duePlan(x, 0, 2, 0, 1);
        x.setMinutes(1, 2, 29);
        check.duePlan(x, 0, 2, 1, 0);
    }

    /** "the one before (at first the depot)". */
    private static void theDepotComesBeforeTheFirst() {
        RefusePlanner x = Check.withPlaces(2);
        x.addBin(1, 0, 20, 0);
        x.addBin(2, 0, 20, 0);
        x.setMinutes(0, 1, 8);
        x.setMinutes(0, 2, 7);
        x.setMinutes(1, 2, 120);
        x.pass(15);
        check.duePlan(x, 0, 1, 0);
    }
}
