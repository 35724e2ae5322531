/** What the sentences under the promises say beyond those under 'Terms', one test for each, in their order. */
final class PromiseTermsTest {
    private PromiseTermsTest() {
    }

    public static void main(String[] args) {
        setTellsTheNumberBefore();
        copyOfAnAlteredPiece();
        copyOfACopyIsBarred();
        measuredInPlaceOfThatDay();
        fittingIsForToday();
        alterIsForToday();
        alterCountsWhatCanBeUndone();
        undoGivesAllowancesBack();
        undoOneByOneDownToNone();
        undoBehindTheArchive();
        settingAMeasureMakesAllLast();
        settingOthersMakesNothingLast();
        dyedBackNever();
        dressIsForToday();
        aPieceThatGetsFreeTellsToo();
        fitIsForToday();
        playIsForToday();
        hangOntoItsOwnFullRail();
        hangFromQuarantineIsAnotherPiecesPlace();
        daysOfMothsStay();
        countInQuarantine();
        packedWithOneTrunkThere();
        packedWithEmptyTrunksThere();
        loseTwice();
        unpackedInTheOrderOfThisPacking();
        unpackedFromLostTrunks();
        dueDays();
        paidBack();
        hoursOfAllOrders();
        fortyLoads();
        Due.end();
    }

    /** A body, measured 100 on the days up to 9 and from the day 11 on, 103 on the day 10. */
    private static WardrobeVault tenthDay() {
        WardrobeVault v = new WardrobeVault();
        v.body();
        v.measure(0, 9, 100, 100, 100);
        v.measure(0, 10, 103, 100, 100);
        v.measure(0, 11, 100, 100, 100);
        v.piece(1, 0, 0, 0, 100, 10);
        v.show();
        v.scene(0, 1, 0);
        v.wish(0, 0, 0, 0, 0, 0);
        return v;
    }

    /** A body of 100 and a piece of 97, 110 and 102 for chest, waist and length. */
    private static WardrobeVault tailored() {
        WardrobeVault v = new WardrobeVault();
        v.body();
        v.piece(1, 0, 0, 0, 97, 1);
        v.set(0, 'w', 110);
        v.set(0, 'l', 102);
        return v;
    }

    private static String sizes(WardrobeVault v, int piece) {
        return v.told(piece, 'c') + " " + v.told(piece, 'w') + " " + v.told(piece, 'l');
    }

    private static String allowances(WardrobeVault v, int piece) {
        return v.allowance(piece, 'c') + " " + v.allowance(piece, 'w') + " " + v.allowance(piece, 'l');
    }

    /** A show of one scene and body, and pieces of the layers 0, 1 .. on rail 1 given to it. */
    private static WardrobeVault given(int... weights) {
        WardrobeVault v = new WardrobeVault();
        v.body();
        v.show();
        v.scene(0, 1, 600);
        for (int n = 0; n < weights.length; n++) {
            v.piece(1, n, 0, 0, 100, weights[n]);
            v.wish(0, 0, 0, n, 0, 0);
        }
        v.dress(0);
        return v;
    }

    /** 3: "Returns the number before." */
    private static void setTellsTheNumberBefore() {
        WardrobeVault v = tailored();
        Due.is("3 chest", v.set(0, 'c', 1), 97);
        Due.is("3 chest again", v.set(0, 'c', 250), 1);
        Due.is("3 waist", v.set(0, 'w', 1), 110);
        Due.is("3 length", v.set(0, 'l', 1), 102);
        Due.is("3 fastening", v.set(0, 'f', 60), 6);
        Due.is("3 fastening again", v.set(0, 'f', 1), 60);
        Due.is("3 archive", v.set(0, 'a', 1), 0);
        Due.is("3 in it still", v.set(0, 'a', 1), 1);
        Due.is("3 out of it", v.set(0, 'a', 0), 1);
        Due.is("3 out of it still", v.set(0, 'a', 0), 0);
    }

    /** 7: "not in the archive, new and clean, white, with allowances of 3, its measures, weight and fastening being the same" */
    private static void copyOfAnAlteredPiece() {
        WardrobeVault v = new WardrobeVault();
        v.body();
        v.show();
        v.scene(0, 1, 0);
        v.wish(0, 0, 0, 4, 7, 3);
        v.piece(1, 4, 7, 2, 97, 42);
        v.set(0, 'w', 110);
        v.set(0, 'f', 33);
        v.dress(0);
        v.fit(0);
        v.play(0);
        v.moths(0);
        v.set(0, 'a', 1);
        Due.is("7 number", v.copy(0, 2), 1);
        Due.same("7 measures", sizes(v, 1), "100 104 100");
        Due.same("7 allowances", allowances(v, 1), "3 3 3");
        Due.is("7 fastening", v.told(1, 'f'), 33);
        Due.is("7 archive", v.told(1, 'a'), 0);
        Due.is("7 white", v.told(1, 'o'), 0);
        Due.is("7 new", v.told(1, 'u'), 0);
        Due.is("7 clean", v.told(1, 's'), 1);
        Due.is("7 without moths", v.told(1, 'm'), 0);
        Due.is("7 worth, so of its layer", v.told(1, 'v'), 500);
        Due.noElement("7 no alterations", () -> v.undo(1));
        Due.same("7 the old one stays", sizes(v, 0) + " " + v.told(0, 'o') + v.told(0, 's'), "100 104 100 30");
        Due.is("7 on its rail", v.hang(1, 2), 1);
        Due.is("7 of its period", v.dress(0), 90);
        Due.is("7 given", v.given(0, 0), 1);
        Due.is("7 of its weight", v.neck(0, 0), 42);
    }

    private static void copyOfACopyIsBarred() {
        WardrobeVault v = tailored();
        v.set(0, 'a', 1);
        Due.is("7 copy", v.copy(0, 0), 1);
        Due.unsupported("7 a copy is not in the archive", () -> v.copy(1, 0));
        v.set(1, 'a', 1);
        Due.is("7 it is now", v.copy(1, 0), 2);
        v.quarantine(0);
        Due.is("7 of one that is elsewhere", v.copy(0, 0), 3);
    }

    /** 9: "in place of what was told for this day", "Returns on how many days it was measured." */
    private static void measuredInPlaceOfThatDay() {
        WardrobeVault v = new WardrobeVault();
        v.body();
        Due.is("9 day 0 again", v.measure(0, 0, 90, 91, 92), 1);
        Due.is("11 day 0", v.measured(0, 0, 'l'), 92);
        Due.is("9 another day", v.measure(0, 9999, 1, 2, 3), 2);
        Due.is("9 that day again", v.measure(0, 9999, 250, 249, 248), 2);
        Due.is("11 that day", v.measured(0, 9999, 'w'), 249);
        for (int day = 1; day <= 6; day++) {
            Due.is("9 day " + day, v.measure(0, day, 100, 100, 100), 2 + day);
        }
        Due.badState("9 a ninth day", () -> v.measure(0, 7, 1, 1, 1));
        Due.is("9 each of the eight again", v.measure(0, 6, 50, 60, 70), 8);
        Due.is("11 it was put", v.measured(0, 6, 'w'), 60);
        Due.is("9 the first one again", v.measure(0, 0, 1, 1, 1), 8);
        Due.is("11 it was put, too", v.measured(0, 0, 'c'), 1);
    }

    /** 12: "how many minutes it takes to make a piece fit a body today" */
    private static void fittingIsForToday() {
        WardrobeVault v = tenthDay();
        v.pass(9);
        Due.is("12 day 9", v.fitting(0, 0), 0);
        v.pass(1);
        Due.is("12 day 10", v.fitting(0, 0), 60);
        v.pass(1);
        Due.is("12 day 11", v.fitting(0, 0), 0);
    }

    /** 13: "Makes a piece on a rail fit a body today." */
    private static void alterIsForToday() {
        WardrobeVault v = tenthDay();
        v.pass(9);
        Due.unsupported("13 it fits on day 9", () -> v.alter(0, 0));
        v.pass(1);
        Due.is("13 day 10", v.alter(0, 0), 1);
        Due.same("13 as on that day", sizes(v, 0), "103 100 100");
        v.undo(0);
        v.pass(1);
        Due.unsupported("13 it fits on day 11", () -> v.alter(0, 0));
    }

    /** 13: "Returns how many alterations of it can be undone." */
    private static void alterCountsWhatCanBeUndone() {
        WardrobeVault v = tailored();
        v.piece(1, 0, 0, 0, 97, 1);
        Due.is("13 first", v.alter(0, 0), 1);
        Due.is("13 another piece", v.alter(1, 0), 1);
        v.measure(0, 0, 90, 90, 90);
        Due.is("13 second", v.alter(0, 0), 2);
        Due.is("14 undone", v.undo(0), 1);
        Due.is("13 second anew", v.alter(0, 0), 2);
        v.set(0, 'c', 101);
        Due.is("13 the first that can be undone", v.alter(0, 0), 1);
    }

    /** 14: "measures and allowances are as they were ahead of it" */
    private static void undoGivesAllowancesBack() {
        WardrobeVault v = tailored();
        v.alter(0, 0);
        Due.same("13 measures", sizes(v, 0), "100 104 102");
        Due.same("13 allowances", allowances(v, 0), "0 9 3");
        v.measure(0, 0, 90, 107, 102);
        v.alter(0, 0);
        Due.same("13 measures again", sizes(v, 0), "94 107 102");
        Due.same("13 allowances again", allowances(v, 0), "6 6 3");
        v.undo(0);
        Due.same("14 measures", sizes(v, 0), "100 104 102");
        Due.same("14 allowances", allowances(v, 0), "0 9 3");
        v.undo(0);
        Due.same("14 measures at first", sizes(v, 0), "97 110 102");
        Due.same("14 allowances at first", allowances(v, 0), "3 3 3");
    }

    /** 14: "Returns how many more can be undone." and "if there is none" */
    private static void undoOneByOneDownToNone() {
        WardrobeVault v = tailored();
        for (int n = 1; n <= 20; n++) {
            v.measure(0, 0, 100 - n % 2 * 5, 100, 100);
            Due.is("13 alteration " + n, v.alter(0, 0), n);
        }
        for (int n = 19; n >= 0; n--) {
            Due.is("14 left " + n, v.undo(0), n);
        }
        Due.noElement("14 none", () -> v.undo(0));
        Due.same("14 as at first", sizes(v, 0) + " " + allowances(v, 0), "97 110 102 3 3 3");
    }

    private static void undoBehindTheArchive() {
        WardrobeVault v = tailored();
        v.alter(0, 0);
        v.set(0, 'a', 1);
        Due.unsupported("14 in the archive", () -> v.undo(0));
        v.set(0, 'a', 0);
        v.set(0, 'f', 9);
        Due.is("14 out of it", v.undo(0), 0);
        Due.same("14 measures", sizes(v, 0), "97 110 102");
    }

    /** 14: "setting a measure makes all alterations of the piece last" */
    private static void settingAMeasureMakesAllLast() {
        for (char kind : new char[] {'c', 'w', 'l'}) {
            WardrobeVault v = tailored();
            v.alter(0, 0);
            v.measure(0, 0, 90, 90, 90);
            v.alter(0, 0);
            v.set(0, kind, v.told(0, kind));
            Due.noElement("14 set " + kind, () -> v.undo(0));
            Due.same("14 measures stay", sizes(v, 0), "94 94 94");
            Due.same("14 allowances stay", allowances(v, 0), "6 19 11");
        }
    }

    private static void settingOthersMakesNothingLast() {
        WardrobeVault v = tailored();
        v.piece(1, 0, 0, 0, 97, 1);
        v.alter(0, 0);
        v.set(1, 'c', 50);
        v.set(0, 'f', 9);
        Due.noArgument("3 refused", () -> v.set(0, 'c', 251));
        v.dye(0, 3);
        v.quarantine(0);
        v.hang(0, 2);
        Due.is("14 it can be undone", v.undo(0), 0);
        Due.is("14 the fastening stays", v.told(0, 'f'), 9);
        Due.is("14 the colour stays", v.told(0, 'o'), 3);
    }

    /** 15: "the colour is not darker, that is a greater number" */
    private static void dyedBackNever() {
        WardrobeVault v = tailored();
        Due.unsupported("15 white again", () -> v.dye(0, 0));
        Due.is("15 by one", v.dye(0, 1), 0);
        Due.unsupported("15 the same", () -> v.dye(0, 1));
        Due.is("15 to black", v.dye(0, 5), 1);
        for (int colour = 0; colour < 6; colour++) {
            int lighter = colour;
            Due.unsupported("15 black to " + colour, () -> v.dye(0, lighter));
        }
        Due.noArgument("15 blacker", () -> v.dye(0, 6));
    }

    /** 20: "Dresses a show for today." */
    private static void dressIsForToday() {
        WardrobeVault v = tenthDay();
        v.pass(9);
        Due.is("20 day 9", v.dress(0), 0);
        v.pass(1);
        Due.is("20 day 10", v.dress(0), 60);
        v.pass(1);
        Due.is("20 day 11", v.dress(0), 0);
    }

    /** 20: "costumes by rising numbers ... tell: the lower piece", also one that a lower costume gives up. */
    private static void aPieceThatGetsFreeTellsToo() {
        WardrobeVault v = new WardrobeVault();
        int[] bodies = {100, 96, 104};
        int[] pieces = {100, 104, 108, 96};
        v.show();
        v.scene(0, 1, 0);
        for (int n = 0; n < 3; n++) {
            v.body();
            v.measure(n, 0, bodies[n], bodies[n], bodies[n]);
            v.wish(0, 0, n, 0, 0, 0);
        }
        for (int size : pieces) {
            v.set(v.piece(1, 0, 0, 0, size, 1), 'a', 1);
        }
        // Body 0 can wear the pieces 0 and 1, body 1 the pieces 0 and 3, body 2 the pieces 1 and 2.
        Due.is("20 sum", v.dress(0), 0);
        Due.is("21 the lowest of wish 0", v.given(0, 0), 0);
        Due.is("21 what is left for wish 1", v.given(0, 1), 3);
        Due.is("21 the lower one of wish 2", v.given(0, 2), 1);
    }

    /** 22: "Dyes and alters all that was given to a show, for today" */
    private static void fitIsForToday() {
        WardrobeVault v = tenthDay();
        v.dress(0);
        v.pass(9);
        Due.is("22 day 9", v.fit(0), 0);
        v.pass(1);
        Due.is("22 day 10", v.fit(0), 1);
        Due.same("22 as on that day", sizes(v, 0), "103 100 100");
        v.undo(0);
        v.pass(1);
        Due.is("22 day 11", v.fit(0), 0);
    }

    /** 27: "Plays a show today." */
    private static void playIsForToday() {
        WardrobeVault v = tenthDay();
        v.dress(0);
        v.pass(9);
        Due.is("27 day 9", v.play(0), 1);
        v.pass(1);
        Due.unsupported("27 day 10", () -> v.play(0));
        v.pass(1);
        Due.is("27 day 11", v.play(0), 1);
    }

    /** 29: "the rail is full, and not its own" */
    private static void hangOntoItsOwnFullRail() {
        WardrobeVault v = new WardrobeVault();
        for (int n = 0; n < 24; n++) {
            v.piece(n / 12, 0, 0, 0, 100, 1);
        }
        Due.is("29 its own", v.hang(0, 0), 12);
        Due.unsupported("29 another full one", () -> v.hang(0, 1));
        Due.is("29 one with place", v.hang(0, 2), 1);
        v.piece(0, 0, 0, 0, 100, 1);
        Due.unsupported("29 not back, it is full", () -> v.hang(0, 0));
        Due.is("29 place is made", v.hang(1, 2), 2);
        Due.is("29 the twelfth", v.hang(0, 0), 12);
    }

    /** 29: a piece in quarantine has no rail of its own. */
    private static void hangFromQuarantineIsAnotherPiecesPlace() {
        WardrobeVault v = new WardrobeVault();
        for (int n = 0; n < 12; n++) {
            v.piece(0, 0, 0, 0, 100, 1);
        }
        v.quarantine(0);
        v.piece(0, 0, 0, 0, 100, 1);
        Due.unsupported("29 its place was taken", () -> v.hang(0, 0));
        Due.is("29 stays there", v.place(0), 'q');
        Due.is("29 another rail", v.hang(0, 3), 1);
        v.moths(0);
        Due.is("29 with moths, on a rail", v.hang(0, 2), 1);
        v.quarantine(0);
        Due.unsupported("29 with moths, in quarantine", () -> v.hang(0, 3));
    }

    /** 30: "in one that has some, their day stays" */
    private static void daysOfMothsStay() {
        WardrobeVault v = new WardrobeVault();
        v.piece(1, 0, 0, 0, 100, 1);
        v.piece(1, 0, 0, 0, 100, 1);
        Due.isTrue("30 none ahead", v.moths(0));
        v.pass(6);
        Due.isFalse("30 some ahead", v.moths(0));
        Due.is("32 not yet", v.told(1, 'm'), 0);
        v.pass(1);
        Due.is("32 seven days", v.told(1, 'm'), 1);
        Due.isFalse("30 given by others", v.moths(1));
    }

    /** 31: "Returns how many are there then." */
    private static void countInQuarantine() {
        WardrobeVault v = new WardrobeVault();
        for (int n = 0; n < 40; n++) {
            v.piece(n / 12, 0, 0, 0, 100, 1);
        }
        for (int n = 0; n < 40; n++) {
            Due.is("31 piece " + n, v.quarantine(n), n + 1);
        }
        Due.unsupported("31 it is there", () -> v.quarantine(39));
        v.hang(7, 0);
        Due.is("31 again", v.quarantine(7), 40);
    }

    /** 33: "Throws IllegalStateException if there are trunks" */
    private static void packedWithOneTrunkThere() {
        WardrobeVault v = given(10);
        v.show();
        v.scene(1, 1, 1);
        v.wish(1, 0, 0, 5, 0, 0);
        v.piece(0, 5, 0, 0, 100, 10);
        v.dress(1);
        Due.is("33 one trunk", v.pack(0), 1);
        Due.badState("33 another show", () -> v.pack(1));
        Due.is("33 it hangs still", v.place(1), 'r');
        v.unpack();
        Due.is("33 without trunks", v.pack(1), 1);
        Due.unsupported("33 what is in a trunk is on no rail", () -> v.pack(1));
    }

    /** 35: "it stays empty": a lost trunk is a trunk still. */
    private static void packedWithEmptyTrunksThere() {
        WardrobeVault v = given(10);
        v.show();
        v.scene(1, 1, 1);
        v.wish(1, 0, 0, 5, 0, 0);
        v.piece(0, 5, 0, 0, 100, 10);
        v.dress(1);
        v.pack(0);
        Due.is("35 lost", v.lose(0), 1);
        Due.badState("33 an empty trunk is there", () -> v.pack(1));
        Due.is("36 nothing in it", v.unpack(), 0);
        Due.is("33 none is there", v.pack(1), 1);
        Due.is("34 numbers from 0 again", v.trunk(1), 0);
    }

    private static void loseTwice() {
        WardrobeVault v = given(60, 60);
        v.pack(0);
        Due.is("35 once", v.lose(0), 1);
        Due.is("35 twice", v.lose(0), 0);
        Due.is("35 the other one", v.lose(1), 1);
        Due.noIndex("35 no third one", () -> v.lose(2));
        v.unpack();
        Due.noIndex("35 none", () -> v.lose(0));
    }

    /** 36: "trunk by trunk, piece by piece as they were packed; then there are none" */
    private static void unpackedInTheOrderOfThisPacking() {
        WardrobeVault v = given(10, 10);
        v.show();
        v.scene(1, 1, 1);
        v.body();
        v.wish(1, 0, 1, 0, 0, 0);
        v.wish(1, 0, 0, 1, 0, 0);
        v.dress(1);
        v.pack(0);
        Due.is("36 packed as 0, 1", v.unpack(), 2);
        for (int n = 0; n < 10; n++) {
            v.piece(0, 6, 9, 0, 100, 1);
        }
        v.pack(1);
        v.piece(0, 6, 9, 0, 100, 1);
        Due.is("36 packed as 1, 0", v.unpack(), 2);
        Due.is("36 the first one packed on the lowest rail", v.hang(1, 0), 12);
        Due.unsupported("36 the other one not", () -> v.hang(0, 0));
        Due.badState("36 none", v::unpack);
    }

    private static void unpackedFromLostTrunks() {
        WardrobeVault v = given(60, 60, 60);
        v.pack(0);
        v.lose(1);
        Due.is("36 but for the lost one", v.unpack(), 2);
        Due.is("36 gone stays gone", v.place(1), 'x');
        Due.is("36 on a rail", v.place(2), 'r');
        Due.noElement("34 in none", () -> v.trunk(2));
    }

    /** 37: "Returns the day on which it is due." */
    private static void dueDays() {
        WardrobeVault v = given(1, 1);
        Due.is("37 tomorrow", v.hire(0, 1, 0), 1);
        v.pass(99);
        Due.is("37 the longest", v.hire(1, 99, 9999), 198);
    }

    /** 38: "Returns what is paid back." */
    private static void paidBack() {
        WardrobeVault v = given(1, 1);
        v.hire(0, 1, 9999);
        Due.is("38 all", v.takeBack(0, 0), 9999);
        v.hire(0, 1, 9999);
        Due.is("38 all but one of a hundred, rounded down", v.takeBack(0, 1), 9900);
        v.hire(0, 1, 9999);
        Due.is("38 nothing", v.takeBack(0, 100), 0);
        Due.is("42 kept", v.kept(), 99 + 9999);
        v.hire(1, 1, 0);
        Due.is("38 of no deposit", v.takeBack(1, 100), 0);
        Due.is("42 nothing more", v.kept(), 99 + 9999);
    }

    /** 39: "Returns the hours that all orders need still." */
    private static void hoursOfAllOrders() {
        WardrobeVault v = given(1, 1, 1);
        Due.is("39 layer 0", v.make(0, 0, 9), 8);
        Due.is("39 and layer 2", v.make(0, 2, 9), 8 + 24);
        v.pass(2);
        Due.is("39 and layer 1, after two days", v.make(0, 1, 9), 16 + 16);
        Due.is("40 open", v.orders(), 2);
    }

    /** 28: each piece is a load of its own, and there are 40. */
    private static void fortyLoads() {
        WardrobeVault v = new WardrobeVault();
        for (int n = 0; n < 10; n++) {
            v.body();
        }
        for (int show = 0; show < 2; show++) {
            v.show();
            v.scene(show, 1, 600);
        }
        for (int n = 0; n < 40; n++) {
            v.piece(n / 12, n % 20 / 10, n % 10, n / 20, 100, 60);
            v.wish(n / 20, 0, n % 10, n % 20 / 10, n % 10, n / 20);
        }
        for (int show = 0; show < 2; show++) {
            Due.is("20 dressed", v.dress(show), 0);
            Due.is("27 played", v.play(show), 20);
        }
        Due.is("28 eight are dry", v.wash(), 8);
        for (int n = 0; n < 40; n++) {
            Due.is("28 wear of " + n, v.told(n, 'u'), 3);
            Due.is("28 clean " + n, v.told(n, 's'), n < 8 ? 1 : 0);
        }
    }
}
