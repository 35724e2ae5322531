/** The sentences under 'Terms' on pieces, bodies and fitting, one test for each, in their order. */
final class PieceTermsTest {
    private static final char[] MEASURES = {'c', 'w', 'l'};

    private PieceTermsTest() {
    }

    public static void main(String[] args) {
        fortyPieces();
        goneOnesCountAmongForty();
        layers();
        periods();
        colours();
        measures();
        allowanceAtFirst();
        weights();
        wearAtFirst();
        wearByPlayingEndsAt100();
        wearByWashingEndsAt100();
        wearByLightEndsAt100();
        wearByMothsEndsAt100();
        wearByHireEndsAt100();
        cleanAtFirst();
        archive();
        placesOfAPiece();
        tenBodies();
        dayZeroIsAmongThem();
        betweenTwoDays();
        daysToldInAnyOrder();
        roundedDown();
        onTheDaysThemselves();
        aheadOfTheFirstDay();
        behindTheLastDay();
        paddedByNineAtMost();
        fitsUpToFourMore();
        tooSmallIsLetOut();
        allowanceAsMuchAsThat();
        allMeasuresOrNone();
        tooGreatIsTakenIn();
        allowanceTakenAndGiven();
        twentyMinutesAUnit();
        archiveIsNeverAltered();
        archiveIsNeverDyed();
        archiveIsNotWornByBeingWorn();
        Due.end();
    }

    /** One piece of layer 0, period 0, white, 100, weight 10 on rail 1, and one body. */
    private static WardrobeVault one() {
        WardrobeVault v = new WardrobeVault();
        v.piece(1, 0, 0, 0, 100, 10);
        v.body();
        return v;
    }

    /** The same, given to a show of one scene. */
    private static WardrobeVault dressed() {
        WardrobeVault v = one();
        v.show();
        v.scene(0, 10, 0);
        v.wish(0, 0, 0, 0, 0, 0);
        Due.is("dressed", v.dress(0), 0);
        return v;
    }

    /** Sets a piece's wear, which must not be above that yet, by hiring it out. */
    private static void wearTo(WardrobeVault v, int piece, int wear) {
        v.hire(piece, 1, 0);
        v.takeBack(piece, wear - v.told(piece, 'u'));
        v.hang(piece, 1);
        Due.is("worn to", v.told(piece, 'u'), wear);
    }

    /** "At most 40 pieces have numbers from 0 on" */
    private static void fortyPieces() {
        WardrobeVault v = new WardrobeVault();
        for (int n = 0; n < 40; n++) {
            Due.is("40 pieces", v.piece(n % 4, 0, 0, 0, 100, 1), n);
        }
        Due.is("the last one", v.place(39), 'r');
        Due.badState("a 41st", () -> v.piece(0, 0, 0, 0, 100, 1));
        Due.noIndex("no 41st", () -> v.place(40));
    }

    private static void goneOnesCountAmongForty() {
        WardrobeVault v = dressed();
        v.pack(0);
        v.lose(0);
        for (int n = 1; n < 40; n++) {
            Due.is("a gone one keeps its number", v.piece(n % 4, 0, 0, 0, 100, 1), n);
        }
        Due.badState("a gone one counts", () -> v.piece(1, 0, 0, 0, 100, 1));
    }

    /** "each of a layer, 0 the one next to the skin, up to 6" */
    private static void layers() {
        WardrobeVault v = new WardrobeVault();
        Due.is("layer 0", v.piece(0, 0, 0, 0, 100, 1), 0);
        Due.is("layer 6", v.piece(0, 6, 0, 0, 100, 1), 1);
        Due.is("worth of 0", v.told(0, 'v'), 100);
        Due.is("worth of 6", v.told(1, 'v'), 700);
        Due.noArgument("layer -1", () -> v.piece(0, -1, 0, 0, 100, 1));
        Due.noArgument("layer 7", () -> v.piece(0, 7, 0, 0, 100, 1));
    }

    /** "a period, 0 to 9" */
    private static void periods() {
        for (int period : new int[] {0, 9}) {
            WardrobeVault v = one();
            v.show();
            v.scene(0, 1, 1);
            Due.is("period", v.piece(0, 1, period, 0, 100, 1), 1);
            v.wish(0, 0, 0, 1, period, 0);
            Due.is("of this period", v.dress(0), 0);
            Due.is("given", v.given(0, 0), 1);
            Due.noArgument("period -1", () -> v.piece(0, 1, -1, 0, 100, 1));
            Due.noArgument("period 10", () -> v.piece(0, 1, 10, 0, 100, 1));
        }
    }

    /** "a colour, 0 white to 5 black" */
    private static void colours() {
        WardrobeVault v = new WardrobeVault();
        for (int colour = 0; colour <= 5; colour++) {
            v.piece(0, 0, 0, colour, 100, 1);
            Due.is("colour", v.told(colour, 'o'), colour);
        }
        Due.noArgument("colour -1", () -> v.piece(0, 0, 0, -1, 100, 1));
        Due.noArgument("colour 6", () -> v.piece(0, 0, 0, 6, 100, 1));
    }

    /** "with three measures, 1 to 250, for chest, waist and length" */
    private static void measures() {
        for (int size : new int[] {1, 250}) {
            WardrobeVault v = one();
            v.piece(0, 0, 0, 0, size, 1);
            for (char kind : MEASURES) {
                Due.is("of a new one", v.told(1, kind), size);
                v.set(0, kind, size);
                Due.is("set", v.told(0, kind), size);
            }
        }
        WardrobeVault v = one();
        for (int size : new int[] {0, 251}) {
            Due.noArgument("size " + size, () -> v.piece(0, 0, 0, 0, size, 1));
            for (char kind : MEASURES) {
                Due.noArgument("set to " + size, () -> v.set(0, kind, size));
            }
        }
    }

    /** "each of which has an allowance by which it can be let out, 3 at first" */
    private static void allowanceAtFirst() {
        for (char kind : MEASURES) {
            WardrobeVault v = one();
            Due.is("allowance", v.allowance(0, kind), 3);
            v.set(0, kind, 97);
            Due.is("let out by 3", v.alter(0, 0), 1);
            WardrobeVault w = one();
            w.set(0, kind, 96);
            Due.unsupported("let out by 4", () -> w.alter(0, 0));
        }
    }

    /** "and a weight, 1 to 99" */
    private static void weights() {
        for (int weight : new int[] {1, 99}) {
            WardrobeVault v = new WardrobeVault();
            v.piece(0, 0, 0, 0, 100, weight);
            v.body();
            v.show();
            v.scene(0, 1, 0);
            v.wish(0, 0, 0, 0, 0, 0);
            v.dress(0);
            Due.is("weight", v.neck(0, 0), weight);
            Due.noArgument("weight 0", () -> v.piece(0, 0, 0, 0, 100, 0));
            Due.noArgument("weight 100", () -> v.piece(0, 0, 0, 0, 100, 100));
        }
    }

    /** "It has a wear, 0 at first, up to 100, at which it is worn out" */
    private static void wearAtFirst() {
        WardrobeVault v = dressed();
        Due.is("wear at first", v.told(0, 'u'), 0);
        wearTo(v, 0, 99);
        Due.is("99 is not worn out", v.dress(0), 0);
        Due.is("given", v.given(0, 0), 0);
        wearTo(v, 0, 100);
        Due.is("100 is worn out", v.dress(0), 1000);
    }

    private static void wearByPlayingEndsAt100() {
        for (int wear : new int[] {97, 98, 99, 100}) {
            WardrobeVault v = dressed();
            wearTo(v, 0, wear);
            Due.is("played", v.play(0), 1);
            Due.is("wear by playing from " + wear, v.told(0, 'u'), wear == 97 ? 99 : 100);
            Due.isTrue("sound", v.isSound());
        }
    }

    private static void wearByWashingEndsAt100() {
        for (int wear : new int[] {96, 97, 98}) {
            WardrobeVault v = dressed();
            wearTo(v, 0, wear);
            v.play(0);
            v.wash();
            Due.is("wear by washing from " + (wear + 2), v.told(0, 'u'), wear == 96 ? 99 : 100);
            Due.isTrue("sound", v.isSound());
        }
    }

    private static void wearByLightEndsAt100() {
        WardrobeVault v = one();
        wearTo(v, 0, 99);
        v.hang(0, 0);
        v.pass(10);
        Due.is("wear by light", v.told(0, 'u'), 100);
        v.pass(10);
        Due.is("no more", v.told(0, 'u'), 100);
        Due.isTrue("sound", v.isSound());
    }

    private static void wearByMothsEndsAt100() {
        WardrobeVault v = one();
        wearTo(v, 0, 98);
        v.moths(0);
        v.pass(1);
        Due.is("wear by moths", v.told(0, 'u'), 99);
        v.pass(1);
        Due.is("wear by moths, worn out", v.told(0, 'u'), 100);
        v.pass(1);
        Due.is("no more", v.told(0, 'u'), 100);
        Due.isTrue("sound", v.isSound());
    }

    private static void wearByHireEndsAt100() {
        WardrobeVault v = one();
        wearTo(v, 0, 60);
        v.hire(0, 1, 0);
        v.takeBack(0, 41);
        Due.is("wear by hire", v.told(0, 'u'), 100);
        Due.isTrue("sound", v.isSound());
    }

    /** "it is clean at first" */
    private static void cleanAtFirst() {
        WardrobeVault v = one();
        Due.is("clean", v.told(0, 's'), 1);
        Due.is("nothing to wash", v.wash(), 0);
        Due.is("not washed", v.told(0, 'u'), 0);
    }

    /** "It can be in the archive." */
    private static void archive() {
        WardrobeVault v = one();
        Due.is("not at first", v.set(0, 'a', 1), 0);
        Due.is("then", v.told(0, 'a'), 1);
        Due.is("out again", v.set(0, 'a', 0), 1);
        Due.is("not then", v.told(0, 'a'), 0);
    }

    /** "It is at a place: 'r' a rail, 'q' quarantine, 't' a trunk, 'h' hired out, 'x' gone." */
    private static void placesOfAPiece() {
        WardrobeVault v = dressed();
        Due.is("r", v.place(0), 'r');
        v.quarantine(0);
        Due.is("q", v.place(0), 'q');
        v.hang(0, 1);
        Due.is("r again", v.place(0), 'r');
        v.hire(0, 1, 0);
        Due.is("h", v.place(0), 'h');
        v.takeBack(0, 0);
        Due.is("r once more", v.place(0), 'r');
        v.pack(0);
        Due.is("t", v.place(0), 't');
        v.unpack();
        Due.is("r at last", v.place(0), 'r');
        v.pack(0);
        v.lose(0);
        Due.is("x", v.place(0), 'x');
        v.unpack();
        Due.is("x for ever", v.place(0), 'x');
    }

    /** "At most 10 bodies have numbers from 0 on." */
    private static void tenBodies() {
        WardrobeVault v = new WardrobeVault();
        for (int n = 0; n < 10; n++) {
            int number = n;
            Due.noIndex("not yet", () -> v.measured(number, 0, 'c'));
            Due.is("body", v.body(), n);
            Due.is("its measure", v.measured(n, 0, 'c'), 100);
        }
        Due.badState("an 11th", v::body);
        Due.noIndex("no 11th", () -> v.measured(10, 0, 'c'));
    }

    /** "Each is measured at days, the day 0 among them" */
    private static void dayZeroIsAmongThem() {
        WardrobeVault v = one();
        Due.is("day 0 in place of the first", v.measure(0, 0, 10, 20, 30), 1);
        Due.is("chest", v.measured(0, 0, 'c'), 10);
        Due.is("waist", v.measured(0, 0, 'w'), 20);
        Due.is("length", v.measured(0, 0, 'l'), 30);
        for (int day = 7; day >= 1; day--) {
            Due.is("days with the day 0", v.measure(0, day, 1, 1, 1), 9 - day);
        }
        Due.badState("8 with the day 0", () -> v.measure(0, 8, 1, 1, 1));
        Due.is("day 0 in place of another", v.measure(0, 0, 40, 50, 60), 8);
        Due.is("length then", v.measured(0, 0, 'l'), 60);
    }

    /**
     * "on a day between two of these, a measure is that of the earlier day plus the difference times
     * the days since, divided by the days between"
     */
    private static void betweenTwoDays() {
        WardrobeVault v = one();
        v.measure(0, 30, 130, 70, 100);
        v.measure(0, 10, 120, 120, 200);
        Due.is("a day behind the first", v.measured(0, 1, 'c'), 102);
        Due.is("a day ahead of the second", v.measured(0, 9, 'l'), 190);
        Due.is("a day behind the second", v.measured(0, 11, 'l'), 195);
        Due.is("in the middle", v.measured(0, 20, 'w'), 95);
        Due.is("a day ahead of the third", v.measured(0, 29, 'c'), 129);
        v.measure(0, 21, 1, 1, 1);
        Due.is("the day told since then", v.measured(0, 22, 'c'), 1 + 129 / 9);
    }

    /** The two days between which a day lies are the nearest ones, in whatever order the days were told. */
    private static void daysToldInAnyOrder() {
        int[][] told = {{0, 100}, {10, 120}, {20, 110}, {40, 170}};
        int[][] orders = {{1, 2, 3}, {1, 3, 2}, {2, 1, 3}, {2, 3, 1}, {3, 1, 2}, {3, 2, 1}};
        int[][] due = {{0, 100}, {1, 102}, {9, 118}, {10, 120}, {11, 119}, {19, 111}, {20, 110}, {21, 113}, {39, 167},
            {40, 170}, {41, 170}};
        for (int[] order : orders) {
            WardrobeVault v = one();
            for (int n : order) {
                v.measure(0, told[n][0], told[n][1], told[n][1], told[n][1]);
            }
            for (int[] day : due) {
                for (char kind : MEASURES) {
                    Due.is("told " + order[0] + order[1] + order[2] + ", day " + day[0], v.measured(0, day[0], kind), day[1]);
                }
            }
        }
    }

    /** "rounded down" */
    private static void roundedDown() {
        WardrobeVault v = one();
        v.measure(0, 4, 103, 97, 250);
        int[][] due = {{100, 100, 100}, {100, 99, 137}, {101, 98, 175}, {102, 97, 212}, {103, 97, 250}};
        for (int day = 0; day <= 4; day++) {
            Due.is("rising on " + day, v.measured(0, day, 'c'), due[day][0]);
            Due.is("falling on " + day, v.measured(0, day, 'w'), due[day][1]);
            Due.is("rising by much on " + day, v.measured(0, day, 'l'), due[day][2]);
        }
        v.measure(0, 9999, 1, 250, 2);
        Due.is("falling for long", v.measured(0, 9998, 'c'), 1);
        Due.is("falling, first day", v.measured(0, 5, 'c'), 102);
        Due.is("rising for long", v.measured(0, 9998, 'w'), 249);
        Due.is("rising, first day", v.measured(0, 5, 'w'), 97);
    }

    private static void onTheDaysThemselves() {
        WardrobeVault v = one();
        v.measure(0, 7, 150, 50, 1);
        v.measure(0, 8, 9, 250, 99);
        Due.is("day 7", v.measured(0, 7, 'c') * 1000 + v.measured(0, 7, 'w'), 150050);
        Due.is("day 8", v.measured(0, 8, 'c') * 1000 + v.measured(0, 8, 'w'), 9250);
        Due.is("lengths", v.measured(0, 7, 'l') * 1000 + v.measured(0, 8, 'l'), 1099);
    }

    /** "ahead of the first day it is that of the first one": the day 0 is always the first one. */
    private static void aheadOfTheFirstDay() {
        WardrobeVault v = one();
        v.measure(0, 9999, 200, 200, 200);
        Due.is("the first day", v.measured(0, 0, 'c'), 100);
        Due.noArgument("ahead of it", () -> v.measured(0, -1, 'c'));
    }

    /** "behind the last day that of the last one" */
    private static void behindTheLastDay() {
        WardrobeVault v = one();
        Due.is("of the only one", v.measured(0, 9999, 'w'), 100);
        v.measure(0, 5, 110, 90, 101);
        for (int day : new int[] {5, 6, 9999}) {
            Due.is("chest on " + day, v.measured(0, day, 'c'), 110);
            Due.is("waist on " + day, v.measured(0, day, 'w'), 90);
        }
        for (int n = 0; n < 102; n++) {
            v.pass(99);
        }
        v.set(0, 'w', 90);
        v.set(0, 'c', 110);
        v.set(0, 'l', 105);
        Due.is("on a day later than can be asked for", v.fitting(0, 0), 0);
        v.set(0, 'l', 106);
        Due.is("on that day, too great", v.fitting(0, 0), 20);
    }

    /** "Each measure can be padded, by 0 to 9, which is added." */
    private static void paddedByNineAtMost() {
        for (char kind : MEASURES) {
            WardrobeVault v = one();
            Due.is("no padding at first", v.pad(0, kind, 9), 0);
            for (char each : MEASURES) {
                Due.is("added to one", v.measured(0, 0, each), each == kind ? 109 : 100);
                Due.is("on each day", v.measured(0, 9999, each), each == kind ? 109 : 100);
            }
            Due.noArgument("padding 10", () -> v.pad(0, kind, 10));
            Due.noArgument("padding -1", () -> v.pad(0, kind, -1));
            Due.is("by 9 before", v.pad(0, kind, 0), 9);
            Due.is("none again", v.measured(0, 0, kind), 100);
        }
    }

    /** "A piece fits a body on a day if each of its measures is that of the body, padded, or up to 4 more." */
    private static void fitsUpToFourMore() {
        for (char kind : MEASURES) {
            WardrobeVault v = one();
            v.pad(0, kind, 5);
            int[][] due = {{104, 20}, {105, 0}, {106, 0}, {108, 0}, {109, 0}, {110, 20}};
            for (int[] each : due) {
                v.set(0, kind, each[0]);
                Due.is("minutes at " + each[0], v.fitting(0, 0), each[1]);
            }
        }
    }

    /** "To make it fit changes each measure that is too small to that of the body" */
    private static void tooSmallIsLetOut() {
        for (char kind : MEASURES) {
            WardrobeVault v = one();
            v.set(0, kind, 99);
            v.alter(0, 0);
            for (char each : MEASURES) {
                Due.is("just that one", v.told(0, each), 100);
                Due.is("its allowance", v.allowance(0, each), each == kind ? 2 : 3);
            }
        }
    }

    /** "if the allowance is as much as that" */
    private static void allowanceAsMuchAsThat() {
        for (char kind : MEASURES) {
            WardrobeVault v = one();
            v.set(0, kind, 99);
            v.alter(0, 0);
            v.set(0, kind, 98);
            Due.is("just enough", v.fitting(0, 0), 40);
            v.set(0, kind, 97);
            Due.unsupported("one too few", () -> v.fitting(0, 0));
            Due.unsupported("one too few to alter", () -> v.alter(0, 0));
            v.set(0, kind, 98);
            Due.is("altered", v.alter(0, 0), 1);
            v.set(0, kind, 100);
            Due.is("none left, none needed", v.fitting(0, 0), 0);
            v.set(0, kind, 99);
            Due.unsupported("none left", () -> v.fitting(0, 0));
        }
    }

    private static void allMeasuresOrNone() {
        for (char kind : MEASURES) {
            WardrobeVault v = one();
            for (char each : MEASURES) {
                v.set(0, each, each == kind ? 96 : 99);
            }
            Due.unsupported("one bars it", () -> v.fitting(0, 0));
            Due.unsupported("one bars altering", () -> v.alter(0, 0));
            for (char each : MEASURES) {
                Due.is("none is changed", v.told(0, each), each == kind ? 96 : 99);
                Due.is("no allowance is taken", v.allowance(0, each), 3);
            }
        }
    }

    /** "and each one that is too great to that of the body and 4" */
    private static void tooGreatIsTakenIn() {
        for (char kind : MEASURES) {
            WardrobeVault v = one();
            v.set(0, kind, 105);
            v.alter(0, 0);
            Due.is("by one", v.told(0, kind), 104);
            v.set(0, kind, 250);
            v.alter(0, 0);
            Due.is("by many", v.told(0, kind), 104);
            Due.unsupported("it fits then", () -> v.alter(0, 0));
        }
    }

    /** "Letting out takes from the allowance, taking in adds to it." */
    private static void allowanceTakenAndGiven() {
        for (char kind : MEASURES) {
            WardrobeVault v = one();
            v.set(0, kind, 110);
            v.alter(0, 0);
            Due.is("added", v.allowance(0, kind), 9);
            v.measure(0, 0, 113, 113, 113);
            for (char each : MEASURES) {
                if (each != kind) {
                    v.set(0, each, 113);
                }
            }
            Due.is("let out by 9", v.alter(0, 0), 1);
            Due.is("all taken", v.allowance(0, kind), 0);
            Due.is("the size", v.told(0, kind), 113);
        }
    }

    /** "It takes 20 minutes for each unit by which a measure changes." */
    private static void twentyMinutesAUnit() {
        WardrobeVault v = one();
        v.set(0, 'c', 99);
        Due.is("one unit", v.fitting(0, 0), 20);
        v.set(0, 'w', 98);
        Due.is("three units", v.fitting(0, 0), 60);
        v.set(0, 'l', 108);
        Due.is("four more, taken in", v.fitting(0, 0), 140);
        v.measure(0, 0, 1, 1, 1);
        for (char kind : MEASURES) {
            v.set(0, kind, 250);
        }
        Due.is("the most", v.fitting(0, 0), 20 * 3 * 245);
    }

    /** "A piece in the archive is never altered" */
    private static void archiveIsNeverAltered() {
        WardrobeVault v = dressed();
        v.set(0, 'c', 99);
        v.alter(0, 0);
        v.set(0, 'a', 1);
        v.measure(0, 0, 101, 101, 101);
        Due.unsupported("no fitting", () -> v.fitting(0, 0));
        Due.unsupported("no alteration", () -> v.alter(0, 0));
        Due.unsupported("no undoing", () -> v.undo(0));
        Due.is("no fitting of a show", v.fit(0), 0);
        Due.is("as it was", v.told(0, 'c') * 1000 + v.told(0, 'l'), 100100);
        Due.isTrue("sound", v.isSound());
        v.set(0, 'a', 0);
        Due.is("out of it", v.fit(0), 1);
        Due.is("then", v.told(0, 'c') * 1000 + v.told(0, 'l'), 101101);
    }

    /** "nor dyed" */
    private static void archiveIsNeverDyed() {
        WardrobeVault v = one();
        v.show();
        v.scene(0, 1, 1);
        v.wish(0, 0, 0, 0, 0, 3);
        v.dress(0);
        v.set(0, 'a', 1);
        Due.unsupported("no dyeing", () -> v.dye(0, 5));
        Due.is("no dyeing for a show", v.fit(0), 0);
        Due.is("white", v.told(0, 'o'), 0);
        v.set(0, 'a', 0);
        Due.is("out of it", v.fit(0), 1);
        Due.is("not white", v.told(0, 'o'), 3);
    }

    /** "nor worn out by being worn": all else wears it. */
    private static void archiveIsNotWornByBeingWorn() {
        WardrobeVault v = dressed();
        v.set(0, 'a', 1);
        Due.is("worn", v.play(0), 1);
        Due.is("no wear", v.told(0, 'u'), 0);
        Due.is("not clean", v.told(0, 's'), 0);
        v.wash();
        Due.is("wear by washing", v.told(0, 'u'), 1);
        v.hang(0, 0);
        v.pass(10);
        Due.is("wear by light", v.told(0, 'u'), 2);
        v.moths(0);
        v.pass(1);
        Due.is("wear by moths", v.told(0, 'u'), 3);
    }
}
