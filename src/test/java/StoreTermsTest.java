import java.util.Arrays;

/**
 * The sentences under 'Terms' on laundry, rails, trunks, hire, worth and making, and those under the
 * sums' promises, one test for each, in their order.
 */
final class StoreTermsTest {
    private StoreTermsTest() {
    }

    public static void main(String[] args) {
        kindIsTheLayerModuloThree();
        loadOfOneKind();
        sixtyOfWeight();
        heavierThanALoad();
        onRailsOnly();
        notCleanOnly();
        kindByKind();
        heaviestFirst();
        lowestOfSeveral();
        firstLoadWithPlace();
        hoursByKind();
        machineThatIsFreeFirst();
        firstOfBothMachines();
        dryByTwelve();
        lateOnesAreWashedAgain();
        washingWears();
        nothingToWash();
        twelveOnARail();
        fourRails();
        goneFromARailIsPlace();
        lightOnRailZero();
        everyTenthDay();
        mothsAfterSevenDays();
        mothsToAllOnTheRail();
        mothsNotToWhatHasLeftTheRail();
        mothsWearEachDay();
        mothsOfThisDay();
        mothsWhereverTheyAre();
        mothsNotOfWhatIsGone();
        lightAheadOfMoths();
        fourteenDaysOfQuarantine();
        quarantineBegunAnew();
        daysPassOneByOne();
        daysBeyondAllNumbers();
        hundredInATrunk();
        lastTrunkOpened();
        orderOfPacking();
        mustBeOnRails();
        unpackedOntoTheLowest();
        lostIsGone();
        lostStaysEmpty();
        hiredForDays();
        depositKept();
        keptIsRoundedDown();
        lateDays();
        hundredTogether();
        backOntoTheLowestRail();
        worthOfAPiece();
        tenTimesInTheArchive();
        hoursToMake();
        eightHoursADay();
        byTheDayWanted();
        asGivenOnTheSameDay();
        soonerAheadOfBegun();
        fromTheNextDayOn();
        onTheLowestRailAtTheEndOfTheDay();
        measuresOnTheDayWanted();
        madeAsNew();
        tenOrders();
        fortyWithOrders();
        dayToMakeFor();
        hangingInTheOrderDone();
        sumsOfNothing();
        sumsOfAll();
        soundAtTheEdges();
        Due.end();
    }

    /** A vault with a piece on rails 1 to 3 for each weight, of the layer told, all worn once. */
    private static WardrobeVault worn(int[] layers, int[] weights) {
        WardrobeVault v = new WardrobeVault();
        v.show();
        // Three scenes, so that a body has a layer twice with none in between: two costumes.
        for (int n = 0; n < 3; n++) {
            v.scene(0, 1, 600);
        }
        for (int n = 0; n < 10; n++) {
            v.body();
        }
        for (int n = 0; n < weights.length; n++) {
            v.piece(1 + n / 12, layers[n], n % 10, 0, 100, weights[n]);
            v.wish(0, n / 10 * 2, n % 10, layers[n], n % 10, 0);
        }
        v.dress(0);
        Due.is("worn", v.play(0), weights.length);
        return v;
    }

    private static int[] row(int length, int number) {
        int[] row = new int[length];
        Arrays.fill(row, number);
        return row;
    }

    private static int[] numbers(int... numbers) {
        return numbers;
    }

    /** Which pieces are clean by washing. */
    private static String washed(int[] layers, int[] weights) {
        WardrobeVault v = worn(layers, weights);
        int sum = v.wash();
        StringBuilder all = new StringBuilder();
        for (int n = 0; n < weights.length; n++) {
            sum -= v.told(n, 's');
            all.append(v.told(n, 's'));
        }
        Due.is("as many as are clean", sum, 0);
        return all.toString();
    }

    private static WardrobeVault house(int bodies, int scenes) {
        WardrobeVault v = new WardrobeVault();
        for (int n = 0; n < bodies; n++) {
            v.body();
        }
        v.show();
        for (int n = 0; n < scenes; n++) {
            v.scene(0, 10, 600);
        }
        return v;
    }

    /** Pieces of the layers 0, 1 .. on rail 1 with the weights told, given to the only body of a show. */
    private static WardrobeVault given(int... weights) {
        WardrobeVault v = house(1, 1);
        for (int n = 0; n < weights.length; n++) {
            v.piece(1, n, 0, 0, 100, weights[n]);
            v.wish(0, 0, 0, n, 0, 0);
        }
        Due.is("dressed", v.dress(0), 0);
        return v;
    }

    private static String trunks(WardrobeVault v, int count) {
        StringBuilder all = new StringBuilder();
        for (int n = 0; n < count; n++) {
            all.append(v.place(n) == 't' ? "" + v.trunk(n) : "-");
        }
        return all.toString();
    }

    /** "Each piece has a kind of wash, 0 to 2, which is its layer modulo 3" */
    private static void kindIsTheLayerModuloThree() {
        // Nine loads of one kind: 8, 6 or 4 of them are dry by noon.
        String[] due = {"111111110", "111111000", "111100000"};
        for (int layer = 0; layer < 7; layer++) {
            Due.same("layer " + layer, washed(row(9, layer), row(9, 60)), due[layer % 3]);
        }
    }

    /** "a load is of one kind" */
    private static void loadOfOneKind() {
        // As many loads as pieces: 0, 0, then 3 and 1: 1s end at 5 and 5, 2s at 9 and 9, the last at 13.
        Due.same("three kinds", washed(numbers(0, 3, 1, 4, 2, 5), row(6, 1)), "111111");
        // Kinds 0 and 1 take one machine each, so that of kind 2 but two are dry by noon.
        Due.same("two small loads", washed(numbers(2, 2, 2, 2, 0, 1), numbers(60, 60, 60, 60, 1, 1)), "110011");
    }

    /** "with at most 60 of weight" */
    private static void sixtyOfWeight() {
        // Of kind 2 four loads are dry by noon.
        Due.same("30 and 30 are one", washed(row(10, 2), row(10, 30)), "1111111100");
        Due.same("30 and 31 are two", washed(row(6, 2), numbers(31, 31, 31, 30, 30, 30)), "111110");
        Due.same("20 of 3 are one", washed(row(20, 2), row(20, 3)), "1".repeat(20));
    }

    private static void heavierThanALoad() {
        Due.same("61 and 99 are loads by themselves", washed(row(5, 2), numbers(61, 99, 61, 99, 1)), "11110");
    }

    /** "Loads are made from all pieces on rails" */
    private static void onRailsOnly() {
        WardrobeVault v = worn(row(4, 0), row(4, 10));
        v.quarantine(0);
        v.hire(1, 1, 0);
        v.hang(2, 0);
        Due.is("on rails", v.wash(), 2);
        Due.is("not in quarantine, not hired out", v.told(0, 's') + v.told(1, 's'), 0);
        Due.is("no wear there", v.told(0, 'u') + v.told(1, 'u'), 4);
        WardrobeVault t = given(10);
        t.play(0);
        t.pack(0);
        Due.is("not in a trunk", t.wash(), 0);
        t.unpack();
        Due.is("unpacked", t.wash(), 1);
    }

    /** "that are not clean" */
    private static void notCleanOnly() {
        WardrobeVault v = given(10, 10);
        v.piece(1, 0, 9, 0, 100, 10);
        v.play(0);
        Due.is("not clean", v.wash(), 2);
        Due.is("no wear of a clean one", v.told(2, 'u'), 0);
        Due.is("all are clean", v.wash(), 0);
    }

    /** "kind by kind" */
    private static void kindByKind() {
        // Kind 0 ends at 2 and 2, kind 1 at 5 and 5, kind 2 at 9 and 9, whatever the numbers.
        Due.same("2 told first", washed(numbers(2, 2, 1, 1, 0, 0), row(6, 60)), "111111");
        // One of kind 2 more would end at 13; in another order one of another kind would be late.
        Due.same("2 is late", washed(numbers(2, 2, 2, 1, 1, 0, 0), row(7, 60)), "1101111");
        Due.same("7 of kind 1, one of 0", washed(numbers(1, 1, 1, 1, 1, 1, 0), row(7, 60)), "1111101");
    }

    /** "the heaviest piece first" */
    private static void heaviestFirst() {
        Due.same("the lightest is late", washed(row(5, 2), numbers(31, 32, 60, 33, 34)), "01111");
        // 40 and 20, 30 and 30, 35 and 25, 59 and 1: four loads, none of which is late.
        Due.same("they fill up", washed(row(8, 2), numbers(1, 20, 25, 30, 30, 35, 40, 59)), "1".repeat(8));
    }

    /** "of several the lowest one" */
    private static void lowestOfSeveral() {
        Due.same("the highest is late", washed(row(5, 2), row(5, 31)), "11110");
    }

    /** "each into the first load with place, or a new one" */
    private static void firstLoadWithPlace() {
        // Loads 50, 45, 40, 35, 32: 10 goes to the first one, 15 to the second, 20 to the third.
        Due.same("into the first ones", washed(row(9, 2), numbers(50, 45, 40, 35, 32, 10, 15, 20, 25)), "111101111");
        // 28 has place in the last load alone, so both are late.
        Due.same("into the last one", washed(row(6, 2), numbers(50, 45, 40, 35, 33, 27)), "111100");
    }

    /** "A load takes 2, 3 or 4 hours by its kind" and "drying takes 3 hours more" */
    private static void hoursByKind() {
        // Two machines, 9 hours: 4 loads each of 2 hours, 3 each of 3, 2 each of 4.
        int[] loads = {8, 6, 4};
        for (int kind = 0; kind < 3; kind++) {
            int[] layers = row(loads[kind] + 1, kind);
            Due.same("kind " + kind, washed(layers, row(layers.length, 60)), "1".repeat(loads[kind]) + "0");
        }
    }

    /** "two machines take them, in the order in which they were made, each one the machine that is free first" */
    private static void machineThatIsFreeFirst() {
        // 0 ends at 2 and 2, 4; 1: the second machine to 5, the first to 7; 2: the second to 9, the first to 11.
        Due.same("the first one is late", washed(numbers(0, 0, 0, 1, 1, 2, 2), row(7, 60)), "1111110");
        // 0 ends at 2; 1 at 3, 5; 2: the second to 7, the first to 9, then the second to 11.
        Due.same("the last one is late", washed(numbers(0, 1, 1, 2, 2, 2), row(6, 60)), "111110");
    }

    /** "the first one of both" */
    private static void firstOfBothMachines() {
        // Both are free at 2, then at 6: the answers are the same with either one.
        Due.same("both free", washed(numbers(0, 0, 2, 2), row(4, 60)), "1111");
    }

    /** "They begin at the hour 0; what is dry by the hour 12 is clean then, all else is not" */
    private static void dryByTwelve() {
        // Kind 1 alone: 3, 6 and 9, and 3 hours of drying: just 12; then 12 and 3.
        Due.same("at 12", washed(row(5, 1), row(5, 60)), "11111");
        Due.same("at 15", washed(row(7, 1), row(7, 60)), "1111110");
        // 0: 2, 2, 4; 1: 5, 7; 1: 8, 10: dry at 13.
        Due.same("at 13", washed(numbers(0, 0, 0, 1, 1, 1, 1), row(7, 60)), "1111110");
    }

    private static void lateOnesAreWashedAgain() {
        WardrobeVault v = worn(row(9, 2), row(9, 60));
        Due.is("four loads", v.wash(), 4);
        Due.is("four more", v.wash(), 4);
        Due.is("the last one", v.wash(), 1);
        Due.is("wear of the first", v.told(0, 'u'), 3);
        Due.is("wear of the last", v.told(8, 'u'), 5);
        Due.is("none is left", v.wash(), 0);
    }

    /** "washing adds 1 to the wear of all that were in a load, also of those that are not dry, and in the archive" */
    private static void washingWears() {
        WardrobeVault v = worn(row(5, 2), row(5, 60));
        v.set(0, 'a', 1);
        v.set(4, 'a', 1);
        Due.is("washed", v.wash(), 4);
        for (int n = 0; n < 5; n++) {
            Due.is("wear", v.told(n, 'u'), 3);
        }
        Due.is("not dry", v.told(4, 's'), 0);
    }

    private static void nothingToWash() {
        WardrobeVault v = new WardrobeVault();
        Due.is("no pieces", v.wash(), 0);
        v.piece(0, 0, 0, 0, 100, 1);
        Due.is("all clean", v.wash(), 0);
    }

    /** "At most 4 rails hold at most 12 pieces each" */
    private static void twelveOnARail() {
        for (int rail = 0; rail < 4; rail++) {
            int number = rail;
            WardrobeVault v = new WardrobeVault();
            for (int n = 0; n < 12; n++) {
                Due.is("piece", v.piece(rail, 0, 0, 0, 100, 1), n);
            }
            Due.unsupported("a 13th", () -> v.piece(number, 0, 0, 0, 100, 1));
            v.piece((rail + 1) % 4, 0, 0, 0, 100, 1);
            Due.unsupported("hung there", () -> v.hang(12, number));
            v.set(12, 'a', 1);
            Due.unsupported("copied there", () -> v.copy(12, number));
            Due.is("its own stays", v.hang(3, number), 12);
            Due.isTrue("sound", v.isSound());
        }
    }

    private static void fourRails() {
        WardrobeVault v = new WardrobeVault();
        for (int rail = 0; rail < 4; rail++) {
            Due.is("rail", v.piece(rail, 0, 0, 0, 100, 1), rail);
            Due.is("one there", v.hang(rail, rail), 1);
        }
        for (int no : new int[] {-1, 4}) {
            Due.noArgument("no rail", () -> v.piece(no, 0, 0, 0, 100, 1));
            Due.noArgument("no rail to hang on", () -> v.hang(0, no));
        }
        Due.is("all on the last one", v.hang(0, 3), 2);
        Due.is("more", v.hang(1, 3), 3);
    }

    private static void goneFromARailIsPlace() {
        for (int way = 0; way < 4; way++) {
            WardrobeVault v = given(10);
            for (int n = 0; n < 11; n++) {
                v.piece(1, 6, 9, 0, 100, 1);
            }
            Due.unsupported("full", () -> v.piece(1, 6, 9, 0, 100, 1));
            if (way == 0) {
                v.quarantine(0);
            } else if (way == 1) {
                v.hire(0, 1, 1);
            } else if (way == 2) {
                v.pack(0);
            } else {
                v.hang(0, 2);
            }
            Due.is("place", v.piece(1, 6, 9, 0, 100, 1), 12);
            Due.unsupported("full again", () -> v.piece(1, 6, 9, 0, 100, 1));
        }
    }

    /** "rail 0 is in the light" */
    private static void lightOnRailZero() {
        WardrobeVault v = given(1);
        for (int rail = 0; rail < 4; rail++) {
            v.piece(rail, 6, 9, 0, 100, 1);
        }
        v.hang(0, 0);
        v.pass(10);
        Due.is("rail 0", v.told(0, 'u') * 10 + v.told(1, 'u'), 11);
        Due.is("rails 1 to 3", v.told(2, 'u') + v.told(3, 'u') + v.told(4, 'u'), 0);
        v.quarantine(0);
        v.hire(1, 99, 0);
        v.hang(2, 0);
        v.pass(10);
        Due.is("no light elsewhere", v.told(0, 'u') * 10 + v.told(1, 'u'), 11);
        Due.is("hung there", v.told(2, 'u'), 1);
    }

    /** "pieces on rail 0 get 1 more of wear on each day whose number 10 divides" */
    private static void everyTenthDay() {
        WardrobeVault v = new WardrobeVault();
        v.piece(0, 0, 0, 0, 100, 1);
        Due.is("not on the day 0", v.told(0, 'u'), 0);
        for (int day = 1; day <= 40; day++) {
            v.pass(1);
            Due.is("on day " + day, v.told(0, 'u'), day / 10);
        }
    }

    /** "a piece with moths, 7 days behind the day on which they came, or more, gives moths" */
    private static void mothsAfterSevenDays() {
        WardrobeVault v = new WardrobeVault();
        v.piece(1, 0, 0, 0, 100, 1);
        v.piece(1, 0, 0, 0, 100, 1);
        v.pass(3);
        Due.isTrue("they come", v.moths(0));
        v.pass(6);
        Due.is("6 days", v.told(1, 'm'), 0);
        v.pass(1);
        Due.is("7 days", v.told(1, 'm'), 1);
        v.piece(1, 0, 0, 0, 100, 1);
        Due.is("a new one has none", v.told(2, 'm'), 0);
        v.pass(1);
        Due.is("8 days", v.told(2, 'm'), 1);
        WardrobeVault w = new WardrobeVault();
        w.piece(1, 0, 0, 0, 100, 1);
        w.piece(1, 0, 0, 0, 100, 1);
        w.moths(0);
        w.pass(6);
        Due.isFalse("their day stays", w.moths(0));
        w.pass(1);
        Due.is("7 days from the first", w.told(1, 'm'), 1);
    }

    /** "to all pieces on its rail that have none" */
    private static void mothsToAllOnTheRail() {
        WardrobeVault v = new WardrobeVault();
        for (int n = 0; n < 16; n++) {
            v.piece(n % 4, 0, 0, 0, 100, 1);
        }
        v.moths(9);
        v.pass(5);
        v.moths(5);
        v.pass(2);
        for (int n = 0; n < 16; n++) {
            Due.is("piece " + n, v.told(n, 'm'), n % 4 == 1 ? 1 : 0);
        }
        v.quarantine(9);
        v.hang(5, 2);
        v.pass(5);
        Due.is("the older day of a piece that had some stays", v.told(2, 'm'), 1);
        Due.is("not on other rails", v.told(0, 'm') + v.told(3, 'm'), 0);
    }

    /** "on its rail": in quarantine, in a trunk, hired out or gone, a piece is on none any more. */
    private static void mothsNotToWhatHasLeftTheRail() {
        WardrobeVault v = given(60, 60);
        for (int n = 2; n < 6; n++) {
            v.piece(1, 6, 9, 0, 100, 1);
        }
        Due.is("two trunks", v.pack(0), 2);
        v.lose(1);
        v.quarantine(2);
        v.hire(3, 9, 0);
        v.moths(4);
        v.pass(8);
        Due.is("on the rail", v.told(5, 'm'), 1);
        Due.is("in a trunk", v.told(0, 'm'), 0);
        Due.is("gone", v.told(1, 'm'), 0);
        Due.is("in quarantine", v.told(2, 'm'), 0);
        Due.is("hired out", v.told(3, 'm'), 0);
        Due.is("no wear", v.told(0, 'u') + v.told(2, 'u') + v.told(3, 'u'), 0);
        v.takeBack(3, 0);
        v.hang(3, 1);
        v.pass(1);
        Due.is("back on the rail", v.told(3, 'm'), 1);
    }

    /** "pieces with moths ... get 1 more of wear" */
    private static void mothsWearEachDay() {
        WardrobeVault v = new WardrobeVault();
        v.piece(1, 0, 0, 0, 100, 1);
        v.moths(0);
        Due.is("none on the day they come", v.told(0, 'u'), 0);
        for (int day = 1; day <= 9; day++) {
            v.pass(1);
            Due.is("on day " + day, v.told(0, 'u'), day);
        }
    }

    /** "those who got them on this day, too" */
    private static void mothsOfThisDay() {
        WardrobeVault v = new WardrobeVault();
        v.piece(1, 0, 0, 0, 100, 1);
        v.piece(1, 0, 0, 0, 100, 1);
        v.piece(1, 0, 0, 0, 100, 1);
        v.moths(1);
        v.pass(7);
        Due.is("the lower one", v.told(0, 'u'), 1);
        Due.is("itself", v.told(1, 'u'), 7);
        Due.is("the higher one", v.told(2, 'u'), 1);
    }

    /** "wherever they are" */
    private static void mothsWhereverTheyAre() {
        WardrobeVault v = given(10);
        v.piece(1, 6, 9, 0, 100, 1);
        v.piece(1, 6, 9, 0, 100, 1);
        v.piece(1, 6, 9, 0, 100, 1);
        for (int n = 0; n < 3; n++) {
            v.moths(n);
        }
        v.pack(0);
        v.quarantine(1);
        v.hire(2, 9, 0);
        v.pass(8);
        Due.is("in a trunk", v.told(0, 'u'), 8);
        Due.is("in quarantine", v.told(1, 'u'), 8);
        Due.is("hired out", v.told(2, 'u'), 8);
        Due.is("but they give none to the rail where they were", v.told(3, 'm'), 0);
    }

    /** "but for those that are gone" */
    private static void mothsNotOfWhatIsGone() {
        WardrobeVault v = given(10);
        v.moths(0);
        v.pass(2);
        v.pack(0);
        v.lose(0);
        v.pass(9);
        Due.is("no wear any more", v.told(0, 'u'), 2);
        Due.is("moths still", v.told(0, 'm'), 1);
        Due.isFalse("they have come before", v.moths(0));
    }

    /** "in this order": the light, giving, the moths' wear, quarantine, the tailors. */
    private static void lightAheadOfMoths() {
        WardrobeVault v = new WardrobeVault();
        v.piece(0, 0, 0, 0, 100, 1);
        v.piece(0, 0, 0, 0, 100, 1);
        v.pass(3);
        v.moths(0);
        v.pass(7);
        Due.is("both on day 10", v.told(0, 'u'), 7 + 1);
        Due.is("light and the moths of this day", v.told(1, 'u'), 2);
        WardrobeVault q = new WardrobeVault();
        q.piece(1, 0, 0, 0, 100, 1);
        q.moths(0);
        q.quarantine(0);
        q.pass(14);
        Due.is("wear ahead of the quarantine's end", q.told(0, 'u'), 14);
    }

    /** "of a piece that has been in quarantine for 14 days the moths are gone, and it can be hung again" */
    private static void fourteenDaysOfQuarantine() {
        WardrobeVault v = new WardrobeVault();
        v.piece(1, 0, 0, 0, 100, 1);
        v.pass(5);
        v.moths(0);
        v.quarantine(0);
        v.pass(13);
        Due.is("13 days", v.told(0, 'm'), 1);
        Due.unsupported("it cannot be hung", () -> v.hang(0, 1));
        v.pass(1);
        Due.is("14 days", v.told(0, 'm'), 0);
        Due.is("it is there still", v.place(0), 'q');
        Due.is("it can be hung", v.hang(0, 2), 1);
        Due.isTrue("they can come again", v.moths(0));
        v.pass(20);
        Due.is("on a rail they stay", v.told(0, 'm'), 1);
    }

    private static void quarantineBegunAnew() {
        WardrobeVault v = new WardrobeVault();
        v.piece(1, 0, 0, 0, 100, 1);
        v.quarantine(0);
        v.pass(10);
        Due.is("without moths at any time", v.hang(0, 1), 1);
        v.moths(0);
        v.quarantine(0);
        v.pass(13);
        Due.is("13 days of the second time", v.told(0, 'm'), 1);
        v.pass(1);
        Due.is("14 days of it", v.told(0, 'm'), 0);
    }

    /** "As a day passes, the day becomes 1 more" */
    private static void daysPassOneByOne() {
        WardrobeVault one = new WardrobeVault();
        WardrobeVault all = new WardrobeVault();
        for (WardrobeVault v : new WardrobeVault[] {one, all}) {
            for (int n = 0; n < 6; n++) {
                v.piece(n / 2, 0, 0, 0, 100, 1);
            }
            v.moths(0);
            v.moths(3);
            v.quarantine(3);
        }
        for (int day = 1; day <= 50; day++) {
            Due.is("day", one.pass(1), day);
        }
        Due.is("50 at once", all.pass(50), 50);
        Due.same("it comes to the same", Look.at(all), Look.at(one));
        Due.is("1 is the fewest, 99 the most", all.pass(99), 149);
        Due.noArgument("0", () -> all.pass(0));
        Due.noArgument("100", () -> all.pass(100));
        Due.is("a refused call passes none", all.pass(1), 150);
    }

    private static void daysBeyondAllNumbers() {
        WardrobeVault v = new WardrobeVault();
        v.piece(0, 0, 0, 0, 100, 1);
        v.piece(1, 0, 0, 0, 100, 1);
        v.moths(1);
        for (int n = 1; n <= 500; n++) {
            Due.is("day", v.pass(99), 99 * n);
        }
        Due.is("light", v.told(0, 'u'), 100);
        Due.is("moths", v.told(1, 'u'), 100);
        Due.is("due then", v.hire(1, 99, 9999), 99 * 501);
        Due.isTrue("sound", v.isSound());
    }

    /** "trunks of at most 100 of weight" */
    private static void hundredInATrunk() {
        WardrobeVault v = given(50, 50, 1);
        Due.is("100, and one more", v.pack(0), 2);
        Due.same("which", trunks(v, 3), "001");
        WardrobeVault w = given(50, 51);
        Due.is("101", w.pack(0), 2);
        WardrobeVault x = given(99, 1);
        Due.is("99 and 1", x.pack(0), 1);
        WardrobeVault y = given(99, 99, 99);
        Due.is("each by itself", y.pack(0), 3);
    }

    /** "each into the last trunk opened, or a new one" */
    private static void lastTrunkOpened() {
        WardrobeVault v = given(60, 50, 40, 60, 1);
        Due.is("three", v.pack(0), 3);
        Due.same("never back into an earlier one", trunks(v, 5), "01122");
    }

    /** "in the order in which they are worn first: by scene, then body, then layer" */
    private static void orderOfPacking() {
        WardrobeVault v = house(2, 2);
        for (int n = 0; n < 6; n++) {
            v.piece(1, n % 2, n, 0, 100, 99);
        }
        v.wish(0, 1, 0, 0, 0, 0);
        v.wish(0, 0, 1, 1, 1, 0);
        v.wish(0, 0, 1, 0, 2, 0);
        v.wish(0, 0, 0, 1, 3, 0);
        v.wish(0, 1, 1, 0, 4, 0);
        v.wish(0, 1, 0, 1, 3, 0);
        Due.is("dressed", v.dress(0), 0);
        Due.is("five trunks", v.pack(0), 5);
        // Scene 0: body 0 wears 3, body 1 wears 2 and 1; scene 1: body 0 wears 0, body 1 wears 4.
        Due.same("the trunks are the order", trunks(v, 6), "32104-");
    }

    /** "They must be on rails." */
    private static void mustBeOnRails() {
        WardrobeVault v = given(10, 10);
        v.quarantine(1);
        Due.unsupported("one in quarantine", () -> v.pack(0));
        Due.is("none is packed", v.place(0), 'r');
        v.hang(1, 0);
        v.hire(0, 1, 0);
        Due.unsupported("one hired out", () -> v.pack(0));
        v.takeBack(0, 0);
        Due.is("both", v.pack(0), 1);
        v.lose(0);
        v.unpack();
        Due.unsupported("both gone", () -> v.pack(0));
        WardrobeVault none = house(1, 1);
        Due.unsupported("nothing was given", () -> none.pack(0));
    }

    /** "To unpack hangs all trunks' pieces on the rails with place, the lowest first." */
    private static void unpackedOntoTheLowest() {
        WardrobeVault v = given(99, 99, 1, 99);
        for (int n = 0; n < 10; n++) {
            v.piece(0, 6, 9, 0, 100, 1);
        }
        Due.is("three trunks", v.pack(0), 3);
        Due.is("trunk 1 holds two", v.trunk(2), 1);
        Due.is("four", v.unpack(), 4);
        // Rail 0 had place for two, the pieces of the trunks 0 and 1; the others hang on rail 1.
        Due.is("the first", v.hang(0, 0), 12);
        Due.is("the second", v.hang(1, 0), 12);
        Due.unsupported("not the third", () -> v.hang(2, 0));
        Due.is("the third", v.hang(2, 1), 2);
        Due.is("the fourth", v.hang(3, 1), 2);
        Due.badState("there are none then", v::unpack);
        Due.noElement("in no trunk", () -> v.trunk(0));
        Due.is("packed again", v.pack(0), 3);
    }

    /** "A lost trunk's pieces are gone." */
    private static void lostIsGone() {
        WardrobeVault v = given(99, 60, 40, 99);
        v.pack(0);
        Due.is("the one in the middle", v.lose(1), 2);
        Due.same("places", "" + v.place(0) + v.place(1) + v.place(2) + v.place(3), "txxt");
        Due.noElement("in no trunk", () -> v.trunk(1));
        Due.is("the other trunks stay", v.trunk(0) * 10 + v.trunk(3), 2);
        Due.is("worth of what is left", v.worth(), 100 + 400);
    }

    private static void lostStaysEmpty() {
        WardrobeVault v = given(99, 99);
        v.pack(0);
        Due.is("one", v.lose(0), 1);
        Due.is("it is there still", v.lose(0), 0);
        Due.is("the other one", v.lose(1), 1);
        Due.noIndex("no third", () -> v.lose(2));
        Due.isTrue("sound", v.isSound());
        Due.is("empty ones are unpacked", v.unpack(), 0);
        Due.noIndex("there are none then", () -> v.lose(0));
    }

    /** "A piece on a rail can be hired out for days, with a deposit" */
    private static void hiredForDays() {
        WardrobeVault v = given(10);
        Due.is("1 day, no deposit", v.hire(0, 1, 0), 1);
        Due.is("nothing back", v.takeBack(0, 0), 0);
        Due.is("99 days, the greatest deposit", v.hire(0, 99, 9999), 99);
        Due.is("all back", v.takeBack(0, 0), 9999);
        Due.is("nothing kept", v.kept(), 0);
        v.pass(99);
        Due.is("from today on", v.hire(0, 99, 1), 198);
    }

    /** "the deposit times this wear, at most 100, divided by 100, is kept" */
    private static void depositKept() {
        WardrobeVault v = given(10);
        int kept = 0;
        for (int wear : new int[] {0, 1, 50, 99, 100}) {
            v.hire(0, 1, 9900);
            Due.is("paid back at " + wear, v.takeBack(0, wear), 9900 - 99 * wear);
            kept += 99 * wear;
            Due.is("kept", v.kept(), kept);
        }
        Due.is("it is 100 at most in all", v.told(0, 'u'), 100);
    }

    /** "rounded down" */
    private static void keptIsRoundedDown() {
        int[][] due = {{99, 1, 0}, {100, 1, 1}, {101, 99, 99}, {9999, 99, 9899}, {1, 100, 1}, {199, 1, 1}};
        for (int[] each : due) {
            WardrobeVault v = given(10);
            v.hire(0, 1, each[0]);
            Due.is("paid back of " + each[0], v.takeBack(0, each[1]), each[0] - each[2]);
            Due.is("kept of " + each[0], v.kept(), each[2]);
        }
    }

    /** "a late day counts as 1 more of this wear" */
    private static void lateDays() {
        int[][] due = {{4, 0}, {5, 0}, {6, 1}, {7, 2}, {50, 45}};
        for (int[] each : due) {
            WardrobeVault v = given(10);
            v.hire(0, 5, 100);
            v.pass(each[0]);
            Due.is("on day " + each[0], v.takeBack(0, 0), 100 - each[1]);
            Due.is("the piece's wear", v.told(0, 'u'), 0);
        }
        WardrobeVault v = given(10);
        v.pass(30);
        v.hire(0, 1, 100);
        v.pass(2);
        Due.is("one day late, 7 of wear", v.takeBack(0, 7), 92);
        Due.is("the piece's wear", v.told(0, 'u'), 7);
    }

    /** "100 being the most together" */
    private static void hundredTogether() {
        // Days late, wear, kept of 1000.
        int[][] due = {{98, 1, 990}, {98, 2, 1000}, {98, 3, 1000}, {1, 99, 1000}, {1, 100, 1000}, {0, 100, 1000}};
        for (int[] each : due) {
            WardrobeVault v = given(10);
            v.hire(0, 1, 1000);
            v.pass(1 + each[0]);
            Due.is(each[0] + " late, wear " + each[1], v.takeBack(0, each[1]), 1000 - each[2]);
        }
        WardrobeVault v = given(10);
        v.hire(0, 1, 9999);
        for (int n = 0; n < 300; n++) {
            v.pass(99);
        }
        Due.is("29699 days late", v.takeBack(0, 100), 0);
        Due.is("no more than the deposit", v.kept(), 9999);
    }

    /** "Takes a piece back, onto the lowest rail with place." */
    private static void backOntoTheLowestRail() {
        WardrobeVault v = given(10);
        v.hang(0, 3);
        v.hire(0, 1, 0);
        for (int n = 0; n < 24; n++) {
            v.piece(n / 12, 6, 9, 0, 100, 1);
        }
        v.takeBack(0, 0);
        Due.is("rail 2", v.hang(0, 2), 1);
        v.hire(0, 1, 0);
        v.hang(24, 3);
        v.hang(5, 3);
        v.takeBack(0, 0);
        Due.unsupported("rail 0 is full now", () -> v.hang(5, 0));
        Due.is("it hangs there", v.hang(0, 0), 12);
    }

    /** "A piece is worth 100 times its layer and 1 together, times 100 less its wear, divided by 100" */
    private static void worthOfAPiece() {
        for (int layer = 0; layer < 7; layer++) {
            WardrobeVault v = new WardrobeVault();
            v.piece(1, layer, 0, 0, 100, 1);
            for (int wear : new int[] {0, 1, 98, 1}) {
                v.hire(0, 1, 0);
                v.takeBack(0, wear);
                Due.is("worth", v.told(0, 'v'), (layer + 1) * (100 - v.told(0, 'u')));
                Due.is("worth of all", v.worth(), (layer + 1) * (100 - v.told(0, 'u')));
            }
            Due.is("worn out", v.worth(), 0);
        }
    }

    /** "one in the archive ten times that" */
    private static void tenTimesInTheArchive() {
        WardrobeVault v = new WardrobeVault();
        v.piece(1, 6, 0, 0, 100, 1);
        v.moths(0);
        v.pass(1);
        Due.is("plain", v.told(0, 'v'), 693);
        v.set(0, 'a', 1);
        Due.is("in the archive", v.told(0, 'v'), 6930);
        Due.is("in the sum", v.worth(), 6930);
        v.pass(99);
        Due.is("worn out", v.told(0, 'v'), 0);
    }

    /** A body with wishes for layers 0 to 6 in one scene, whose colours tell the layers, but for 6. */
    private static WardrobeVault tailored() {
        WardrobeVault v = house(1, 1);
        for (int layer = 0; layer < 7; layer++) {
            v.wish(0, 0, 0, layer, 0, layer % 6);
        }
        return v;
    }

    /** "To make a costume anew takes 8 hours for each layer and 1 together" */
    private static void hoursToMake() {
        for (int layer = 0; layer < 7; layer++) {
            WardrobeVault v = tailored();
            Due.is("hours of layer " + layer, v.make(0, layer, 99), 8 * (layer + 1));
            v.pass(layer + 1);
            Due.is("done", v.orders(), 0);
        }
    }

    /** "tailors work 8 hours a day in all" */
    private static void eightHoursADay() {
        WardrobeVault v = tailored();
        v.make(0, 6, 99);
        for (int day = 1; day <= 6; day++) {
            v.pass(1);
            Due.is("not done on day " + day, v.orders(), 1);
            Due.noIndex("no piece", () -> v.place(0));
        }
        Due.is("8 hours left, and 8", v.make(0, 0, 99), 16);
        v.pass(1);
        Due.is("done on day 7", v.orders(), 1);
        Due.is("the piece", v.told(0, 'v'), 700);
        v.pass(1);
        Due.is("the other one on day 8", v.told(1, 'v'), 100);
        v.pass(9);
        Due.is("idle days are not saved", v.make(0, 1, 99), 16);
        v.pass(1);
        Due.is("half of it", v.orders(), 1);
    }

    /** "orders are worked on by the day for which they are wanted" */
    private static void byTheDayWanted() {
        WardrobeVault v = tailored();
        v.make(0, 2, 30);
        v.make(0, 1, 29);
        v.make(0, 0, 28);
        v.pass(1);
        Due.is("first", v.told(0, 'o'), 0);
        v.pass(2);
        Due.is("second", v.told(1, 'o'), 1);
        v.pass(3);
        Due.is("third", v.told(2, 'o'), 2);
    }

    /** "of several by the order in which they were given, one behind the other" */
    private static void asGivenOnTheSameDay() {
        WardrobeVault v = tailored();
        v.make(0, 2, 30);
        v.make(0, 0, 30);
        v.make(0, 1, 30);
        v.pass(2);
        Due.is("none in two days", v.orders(), 3);
        v.pass(1);
        Due.is("first", v.told(0, 'o'), 2);
        v.pass(1);
        Due.is("second", v.told(1, 'o'), 0);
        v.pass(2);
        Due.is("third", v.told(2, 'o'), 1);
    }

    /** "a sooner one ahead of one that was begun" */
    private static void soonerAheadOfBegun() {
        WardrobeVault v = tailored();
        v.make(0, 1, 30);
        v.pass(1);
        Due.is("begun", v.make(0, 0, 29), 8 + 8);
        v.make(0, 2, 30);
        v.pass(1);
        Due.is("the sooner one", v.told(0, 'o'), 0);
        v.pass(1);
        Due.is("the begun one, not the one for the same day", v.told(1, 'o'), 1);
        v.pass(3);
        Due.is("that one", v.told(2, 'o'), 2);
    }

    /** "from the next day on" */
    private static void fromTheNextDayOn() {
        WardrobeVault v = tailored();
        v.pass(5);
        v.make(0, 0, 6);
        Due.noIndex("not on this day", () -> v.place(0));
        v.pass(1);
        Due.is("on the next one", v.place(0), 'r');
        v.make(0, 6, 7);
        v.pass(6);
        Due.is("behind the day wanted, too", v.orders(), 1);
        v.pass(1);
        Due.is("done", v.orders(), 0);
    }

    /** "What is done hangs on the lowest rail with place at the end of that day" */
    private static void onTheLowestRailAtTheEndOfTheDay() {
        WardrobeVault v = tailored();
        for (int n = 0; n < 11; n++) {
            v.piece(0, 6, 9, 0, 100, 1);
        }
        v.pass(8);
        v.moths(0);
        v.make(0, 0, 10);
        v.make(0, 0, 10);
        v.pass(1);
        Due.is("the last place of rail 0", v.hang(11, 0), 12);
        v.pass(1);
        Due.is("the light of day 10 is on what hung ahead of it", v.told(11, 'u'), 1);
        Due.is("not on what hangs since then", v.told(12, 'u'), 0);
        Due.unsupported("rail 0 is full", () -> v.hang(12, 0));
        Due.is("rail 1", v.hang(12, 1), 1);
    }

    /** "with the measures of the body, padded, on the day for which it is wanted, and 2 more each" */
    private static void measuresOnTheDayWanted() {
        WardrobeVault v = tailored();
        v.measure(0, 10, 120, 80, 250);
        v.pad(0, 'c', 1);
        v.pad(0, 'w', 2);
        v.pad(0, 'l', 9);
        int[] days = {1, 5, 10, 9999};
        int[][] due = {{105, 102, 126}, {113, 94, 186}, {123, 84, 261}, {123, 84, 261}};
        for (int n = 0; n < days.length; n++) {
            v.make(0, 0, days[n]);
        }
        v.pass(4);
        for (int n = 0; n < days.length; n++) {
            Due.is("chest for day " + days[n], v.told(n, 'c'), due[n][0]);
            Due.is("waist", v.told(n, 'w'), due[n][1]);
            Due.is("length", v.told(n, 'l'), due[n][2]);
        }
    }

    /** "the weight 5", and all else as of a new piece */
    private static void madeAsNew() {
        WardrobeVault v = house(1, 1);
        v.wish(0, 0, 0, 6, 9, 5);
        v.make(0, 0, 50);
        v.pass(7);
        Due.is("worth tells the layer and no wear", v.told(0, 'v'), 700);
        Due.is("colour", v.told(0, 'o'), 5);
        Due.is("clean, no moths, not in the archive", v.told(0, 's') + v.told(0, 'm') + v.told(0, 'a'), 1);
        Due.is("fastening", v.told(0, 'f'), 6);
        for (char kind : "cwl".toCharArray()) {
            Due.is("measure", v.told(0, kind), 102);
            Due.is("allowance", v.allowance(0, kind), 3);
        }
        Due.noElement("no alteration", () -> v.undo(0));
        Due.is("its period and colour are those wished", v.dress(0), 0);
        Due.is("weight", v.neck(0, 0), 10 * 5);
    }

    /** "if 10 orders are open" */
    private static void tenOrders() {
        WardrobeVault v = tailored();
        for (int n = 1; n <= 10; n++) {
            Due.is("hours", v.make(0, 0, 50), 8 * n);
            Due.is("orders", v.orders(), n);
        }
        Due.badState("an 11th", () -> v.make(0, 0, 50));
        v.pass(1);
        Due.is("one is done", v.orders(), 9);
        Due.is("then one more", v.make(0, 0, 50), 80);
        Due.badState("an 11th again", () -> v.make(0, 0, 50));
    }

    /** "or there would be more than 40 pieces with them" */
    private static void fortyWithOrders() {
        WardrobeVault v = tailored();
        for (int n = 0; n < 37; n++) {
            v.piece(n % 4, 6, 9, 0, 100, 1);
        }
        v.set(0, 'a', 1);
        v.make(0, 0, 50);
        v.make(0, 0, 50);
        Due.is("the 40th", v.make(0, 0, 50), 24);
        Due.badState("a 41st", () -> v.make(0, 0, 50));
        Due.badState("no piece beside the orders", () -> v.piece(0, 0, 0, 0, 100, 1));
        Due.badState("no copy beside the orders", () -> v.copy(0, 0));
        v.pass(3);
        Due.is("all done", v.orders(), 0);
        Due.is("the last number", v.place(39), 'r');
        Due.badState("none more", () -> v.make(0, 0, 50));
    }

    /** "the day for which it is wanted, later than today, to 9999" */
    private static void dayToMakeFor() {
        WardrobeVault v = tailored();
        Due.noArgument("today", () -> v.make(0, 0, 0));
        Due.is("tomorrow", v.make(0, 0, 1), 8);
        Due.is("the last day", v.make(0, 0, 9999), 16);
        Due.noArgument("behind it", () -> v.make(0, 0, 10000));
        for (int n = 0; n < 101; n++) {
            v.pass(n < 100 ? 99 : 98);
        }
        Due.noArgument("day 9998 itself", () -> v.make(0, 0, 9998));
        Due.is("day 9999 on 9998", v.make(0, 0, 9999), 8);
        v.pass(1);
        Due.is("done", v.orders(), 0);
        for (int day : new int[] {0, 9998, 9999, 10000, Integer.MAX_VALUE}) {
            Due.noArgument("no day is left", () -> v.make(0, 0, day));
        }
        v.pass(99);
        Due.noArgument("nor later", () -> v.make(0, 0, 9999));
    }

    /** "those that wait are hung in the order in which they were done": by number. */
    private static void hangingInTheOrderDone() {
        WardrobeVault v = tailored();
        for (int layer = 5; layer >= 0; layer--) {
            v.make(0, layer, 50 - layer);
        }
        v.pass(99);
        for (int n = 0; n < 6; n++) {
            Due.is("number", v.told(n, 'o'), 5 - n);
        }
    }

    /** Promises 41 to 45 with nothing, or nothing left. */
    private static void sumsOfNothing() {
        WardrobeVault v = given(10);
        v.quarantine(0);
        Due.arithmetic("cleanShare of none on rails", v::cleanShare);
        Due.isExactly("meanWear of those elsewhere", v.meanWear(), 0);
        v.hang(0, 1);
        v.pack(0);
        Due.arithmetic("cleanShare of none but in trunks", v::cleanShare);
        Due.is("worth in trunks", v.worth(), 100);
        v.lose(0);
        Due.arithmetic("meanWear of none but gone", v::meanWear);
        Due.is("worth of what is gone", v.worth(), 0);
        Due.isTrue("sound", v.isSound());
    }

    private static void sumsOfAll() {
        WardrobeVault v = given(10, 10, 10);
        v.play(0);
        v.piece(2, 3, 0, 0, 100, 1);
        v.piece(2, 3, 0, 0, 100, 1);
        v.piece(2, 3, 0, 0, 100, 1);
        v.piece(2, 3, 0, 0, 100, 1);
        Due.isExactly("4 of 7", v.cleanShare(), 4f / 7f);
        Due.isExactly("6 over 7", v.meanWear(), 6.0 / 7.0);
        v.set(3, 'a', 1);
        Due.is("98 + 196 + 294 + 4000 + 3 * 400", v.worth(), 98 + 196 + 294 + 4000 + 1200);
        v.wash();
        Due.isExactly("all clean", v.cleanShare(), 1);
        Due.isExactly("9 over 7", v.meanWear(), 9.0 / 7.0);
    }

    /** "no rail holds more than it can ... no wear is above 100 ... nothing in the archive was altered" */
    private static void soundAtTheEdges() {
        WardrobeVault v = new WardrobeVault();
        for (int n = 0; n < 40; n++) {
            v.piece(n / 12, 0, 0, 0, 99, 1);
            v.moths(n);
        }
        v.body();
        Due.isTrue("full rails", v.isSound());
        v.pass(99);
        v.pass(1);
        Due.isTrue("all worn out", v.isSound());
        v.alter(0, 0);
        v.set(0, 'a', 1);
        Due.isTrue("altered ahead of the archive", v.isSound());
        v.set(0, 'c', 1);
        Due.isTrue("set there", v.isSound());
        v.set(0, 'a', 0);
        v.set(0, 'c', 98);
        v.alter(0, 0);
        v.set(0, 'a', 1);
        Due.isTrue("altered outside of it", v.isSound());
    }
}
