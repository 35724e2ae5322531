/** The sentences under 'Terms' on shows and scenes, changes and a night, one test for each, in their order. */
final class ShowTermsTest {
    private ShowTermsTest() {
    }

    public static void main(String[] args) {
        threeShows();
        sixScenes();
        minutesAndSeconds();
        numberedAsTold();
        thirtyWishesOfEachShow();
        oneWishAtAPlace();
        scenesThatFollowEachOther();
        samePeriodAndColour();
        oneBodyAndLayer();
        toldFirstStands();
        standsWhenTwoAreJoined();
        pieceOfItsLayer();
        pieceOfItsPeriod();
        pieceOnARail();
        pieceNotWornOut();
        pieceClean();
        pieceOnce();
        minutesOfFitting();
        ninetyMore();
        lighterThen();
        notInTheArchive();
        thousandWithoutAPiece();
        leastSum();
        lowerPiece();
        noneIsLast();
        lowerWishTellsFirst();
        nothingIsAltered();
        forgottenByDressing();
        forgottenByAWish();
        fitForToday();
        fitOnRails();
        eachOfBothByItself();
        fitNothing();
        layersWithoutAWishAreBare();
        downToTheInnermostUnlike();
        nothingUnlike();
        samePieceIsAlike();
        fastenings();
        sharedAndRoundedUp();
        noDressersNeeded();
        threeAtMostForOne();
        sharedOutOverBodies();
        withinTheSeconds();
        noSeconds();
        outermostTwoLayers();
        timesTheMinutes();
        twoMoreOfWear();
        wornOnceANight();
        refusedWithoutAPiece();
        refusedOnNoRail();
        refusedIfItDoesNotFit();
        refusedWithTooFewDressers();
        twoDressersAtFirst();
        noWishes();
        Due.end();
    }

    /** Bodies of 100 and one show with scenes of 10 minutes and the seconds told behind. */
    private static WardrobeVault house(int bodies, int scenes, int seconds) {
        WardrobeVault v = new WardrobeVault();
        for (int n = 0; n < bodies; n++) {
            v.body();
        }
        v.show();
        for (int n = 0; n < scenes; n++) {
            v.scene(0, 10, seconds);
        }
        return v;
    }

    /** One wish for layer 3, period 5, colour 2, and a piece 0 for it that costs nothing. */
    private static WardrobeVault one() {
        WardrobeVault v = house(1, 1, 0);
        v.piece(1, 3, 5, 2, 100, 10);
        v.wish(0, 0, 0, 3, 5, 2);
        return v;
    }

    private static void wearTo(WardrobeVault v, int piece, int wear) {
        v.hire(piece, 1, 0);
        v.takeBack(piece, wear);
    }

    /** "At most 3 shows have numbers from 0 on" */
    private static void threeShows() {
        WardrobeVault v = new WardrobeVault();
        for (int n = 0; n < 3; n++) {
            int number = n;
            Due.noIndex("not yet", () -> v.costumes(number));
            Due.is("show", v.show(), n);
            Due.is("empty", v.costumes(n), 0);
        }
        Due.badState("a 4th", v::show);
        Due.noIndex("no 4th", () -> v.costumes(3));
    }

    /** "each with at most 6 scenes, numbered from 0" */
    private static void sixScenes() {
        WardrobeVault v = house(1, 0, 0);
        v.show();
        for (int n = 0; n < 6; n++) {
            int number = n;
            Due.noIndex("not yet", () -> v.wish(0, number, 0, 0, 0, 0));
            Due.is("how many", v.scene(0, 1, 1), n + 1);
            Due.is("a wish there", v.wish(0, n, 0, 0, 0, 0), n);
        }
        Due.badState("a 7th", () -> v.scene(0, 1, 1));
        Due.noIndex("no 7th", () -> v.wish(0, 6, 0, 0, 0, 0));
        Due.is("another show has its own", v.scene(1, 1, 1), 1);
    }

    /** "with minutes, and seconds behind it until the next one begins" */
    private static void minutesAndSeconds() {
        int[][] bounds = {{1, 0}, {99, 600}};
        for (int[] each : bounds) {
            WardrobeVault v = house(1, 0, 0);
            Due.is("accepted", v.scene(0, each[0], each[1]), 1);
            v.piece(1, 0, 0, 0, 100, 3);
            v.wish(0, 0, 0, 0, 0, 0);
            v.dress(0);
            Due.is("minutes", v.neck(0, 0), 3 * each[0]);
            v.scene(0, 1, 0);
            Due.same("seconds", Due.thrownBy(() -> v.needed(0, 0)),
                each[1] == 0 ? "NoSuchElementException" : "nothing");
            Due.noArgument("minutes 0", () -> v.scene(0, 0, 0));
            Due.noArgument("minutes 100", () -> v.scene(0, 100, 0));
            Due.noArgument("seconds -1", () -> v.scene(0, 1, -1));
            Due.noArgument("seconds 601", () -> v.scene(0, 1, 601));
        }
    }

    /** "A wish is numbered in the order in which they were told" */
    private static void numberedAsTold() {
        WardrobeVault v = house(2, 2, 0);
        Due.is("first", v.wish(0, 1, 1, 6, 0, 0), 0);
        Due.is("second", v.wish(0, 0, 0, 0, 0, 0), 1);
        Due.unsupported("refused", () -> v.wish(0, 0, 0, 0, 0, 0));
        Due.is("a refused one takes no number", v.wish(0, 0, 1, 3, 0, 0), 2);
        Due.noIndex("no third", () -> v.given(0, 3));
    }

    /** "at most 30 of each show" */
    private static void thirtyWishesOfEachShow() {
        WardrobeVault v = house(10, 1, 0);
        for (int show = 0; show < 2; show++) {
            if (show > 0) {
                v.show();
                v.scene(1, 1, 0);
            }
            for (int n = 0; n < 30; n++) {
                Due.is("wish", v.wish(show, 0, n / 7, n % 7, 0, 0), n);
            }
            int number = show;
            Due.badState("a 31st", () -> v.wish(number, 0, 9, 0, 0, 0));
            Due.noElement("the 30th", () -> v.given(number, 29));
            Due.noIndex("no 31st", () -> v.given(number, 30));
            Due.is("30 costumes", v.costumes(show), 30);
        }
    }

    /** "of one layer, body and scene there is one" */
    private static void oneWishAtAPlace() {
        WardrobeVault v = house(2, 2, 0);
        v.wish(0, 0, 0, 0, 0, 0);
        Due.unsupported("the same", () -> v.wish(0, 0, 0, 0, 0, 0));
        Due.unsupported("of another period and colour", () -> v.wish(0, 0, 0, 0, 9, 5));
        Due.is("another layer", v.wish(0, 0, 0, 1, 0, 0), 1);
        Due.is("another body", v.wish(0, 0, 1, 0, 0, 0), 2);
        Due.is("another scene", v.wish(0, 1, 0, 0, 0, 0), 3);
        // Body 0 in layer 6 and body 1 in layer 0 stand beside each other.
        Due.is("the last layer", v.wish(0, 0, 0, 6, 0, 0), 4);
        Due.unsupported("the last layer again", () -> v.wish(0, 0, 0, 6, 0, 0));
        Due.is("the next body's last layer", v.wish(0, 0, 1, 6, 0, 0), 5);
    }

    /** "The wishes of one body and layer in scenes that follow each other ... are one costume" */
    private static void scenesThatFollowEachOther() {
        WardrobeVault v = house(1, 6, 0);
        v.wish(0, 0, 0, 0, 0, 0);
        v.wish(0, 2, 0, 0, 0, 0);
        Due.is("a gap of one scene", v.costumes(0), 2);
        v.wish(0, 5, 0, 0, 0, 0);
        Due.is("the first and the last scene", v.costumes(0), 3);
        v.wish(0, 1, 0, 0, 0, 0);
        Due.is("without the gap", v.costumes(0), 2);
        v.wish(0, 3, 0, 0, 0, 0);
        Due.is("behind", v.costumes(0), 2);
        v.wish(0, 4, 0, 0, 0, 0);
        Due.is("all six scenes", v.costumes(0), 1);
    }

    /** "with the same period and colour" */
    private static void samePeriodAndColour() {
        int[][] due = {{4, 3, 1}, {4, 2, 2}, {5, 3, 2}};
        for (int[] each : due) {
            WardrobeVault v = house(1, 2, 0);
            v.wish(0, 0, 0, 0, 4, 3);
            v.wish(0, 1, 0, 0, each[0], each[1]);
            Due.is("period " + each[0] + ", colour " + each[1], v.costumes(0), each[2]);
        }
        WardrobeVault v = house(1, 3, 0);
        v.wish(0, 0, 0, 0, 4, 3);
        v.wish(0, 2, 0, 0, 4, 3);
        v.wish(0, 1, 0, 0, 4, 2);
        Due.is("another one between", v.costumes(0), 3);
    }

    private static void oneBodyAndLayer() {
        WardrobeVault v = house(2, 2, 0);
        v.wish(0, 0, 0, 6, 0, 0);
        v.wish(0, 1, 1, 6, 0, 0);
        Due.is("another body", v.costumes(0), 2);
        v.wish(0, 1, 0, 5, 0, 0);
        Due.is("another layer", v.costumes(0), 3);
        v.wish(0, 1, 1, 0, 0, 0);
        Due.is("the next body's first layer", v.costumes(0), 4);
    }

    /** "the wish among them that was told first, the one with the lowest number, stands for it" */
    private static void toldFirstStands() {
        WardrobeVault v = house(2, 2, 0);
        v.piece(1, 0, 0, 0, 100, 1);
        v.piece(1, 0, 0, 0, 100, 1);
        v.wish(0, 1, 1, 0, 0, 0);
        v.wish(0, 0, 0, 0, 0, 0);
        v.wish(0, 0, 1, 0, 0, 0);
        v.dress(0);
        Due.is("wish 0, of a later scene and body", v.given(0, 0), 0);
        Due.is("wish 2 is of its costume", v.given(0, 2), 0);
        Due.is("wish 1", v.given(0, 1), 1);
    }

    private static void standsWhenTwoAreJoined() {
        WardrobeVault v = house(2, 5, 0);
        for (int n = 0; n < 3; n++) {
            v.piece(1, 0, 0, 0, 100, 1);
        }
        v.wish(0, 4, 1, 0, 0, 0);
        v.wish(0, 2, 0, 0, 0, 0);
        v.wish(0, 0, 0, 0, 0, 0);
        v.wish(0, 0, 1, 0, 0, 0);
        v.wish(0, 1, 0, 0, 0, 0);
        Due.is("three", v.costumes(0), 3);
        v.dress(0);
        for (int wish : new int[] {1, 2, 4}) {
            Due.is("joined, standing by 1", v.given(0, wish), 1);
        }
        Due.is("standing by 0", v.given(0, 0), 0);
        Due.is("standing by 3", v.given(0, 3), 2);
    }

    /** "each costume a piece of its layer" */
    private static void pieceOfItsLayer() {
        for (int layer = 0; layer <= 6; layer++) {
            WardrobeVault v = house(1, 1, 0);
            for (int n = 0; n <= 6; n++) {
                v.piece(1, n, 0, 0, 100, 1);
            }
            v.wish(0, 0, 0, layer, 0, 0);
            Due.is("cost", v.dress(0), 0);
            Due.is("of layer " + layer, v.given(0, 0), layer);
        }
    }

    /** "and period" */
    private static void pieceOfItsPeriod() {
        for (int period = 0; period <= 9; period++) {
            WardrobeVault v = house(1, 1, 0);
            for (int n = 0; n <= 9; n++) {
                v.piece(1, 2, n, 0, 100, 1);
            }
            v.wish(0, 0, 0, 2, period, 0);
            Due.is("cost", v.dress(0), 0);
            Due.is("of period " + period, v.given(0, 0), period);
        }
    }

    /** "that is on a rail" */
    private static void pieceOnARail() {
        for (int rail = 0; rail < 4; rail++) {
            WardrobeVault v = one();
            v.hang(0, rail);
            Due.is("on any rail", v.dress(0), 0);
        }
        WardrobeVault q = one();
        q.quarantine(0);
        Due.is("not in quarantine", q.dress(0), 1000);
        WardrobeVault h = one();
        h.hire(0, 1, 0);
        Due.is("not hired out", h.dress(0), 1000);
        WardrobeVault t = one();
        t.dress(0);
        t.pack(0);
        Due.is("not in a trunk", t.dress(0), 1000);
        t.lose(0);
        Due.is("not gone", t.dress(0), 1000);
    }

    /** "not worn out" */
    private static void pieceNotWornOut() {
        WardrobeVault v = one();
        wearTo(v, 0, 99);
        Due.is("99", v.dress(0), 0);
        wearTo(v, 0, 1);
        Due.is("100", v.dress(0), 1000);
    }

    /** "and clean" */
    private static void pieceClean() {
        WardrobeVault v = one();
        v.dress(0);
        v.play(0);
        Due.is("not clean", v.dress(0), 1000);
        v.wash();
        Due.is("washed", v.dress(0), 0);
    }

    /** "each piece to one costume at most" */
    private static void pieceOnce() {
        WardrobeVault v = house(2, 3, 0);
        v.piece(1, 3, 5, 2, 100, 10);
        v.wish(0, 0, 0, 3, 5, 2);
        v.wish(0, 2, 0, 3, 5, 2);
        v.wish(0, 1, 1, 3, 5, 2);
        Due.is("one of three costumes", v.dress(0), 2000);
        Due.is("the first one", v.given(0, 0), 0);
        Due.noElement("not the second", () -> v.given(0, 1));
        Due.noElement("not the third", () -> v.given(0, 2));
        v.piece(1, 3, 5, 2, 100, 10);
        v.piece(1, 3, 5, 2, 100, 10);
        Due.is("three pieces", v.dress(0), 0);
        Due.isTrue("sound", v.isSound());
    }

    /** "with costs: the minutes of making it fit" */
    private static void minutesOfFitting() {
        WardrobeVault v = one();
        int[][] due = {{96, 1000}, {97, 180}, {99, 60}, {100, 0}, {104, 0}, {105, 60}, {120, 960}, {121, 1000}};
        for (int[] each : due) {
            for (char kind : "cwl".toCharArray()) {
                v.set(0, kind, each[0]);
            }
            Due.is("at " + each[0], v.dress(0), each[1]);
        }
        v.set(0, 'c', 100);
        v.set(0, 'w', 100);
        v.set(0, 'l', 100);
        v.measure(0, 5, 102, 100, 100);
        v.pass(5);
        Due.is("on that day", v.dress(0), 40);
        v.pad(0, 'w', 1);
        Due.is("padded", v.dress(0), 60);
    }

    /** "and 90 more if its colour is another one" */
    private static void ninetyMore() {
        WardrobeVault v = one();
        v.set(0, 'c', 99);
        Due.is("the same", v.dress(0), 20);
        WardrobeVault w = house(1, 1, 0);
        w.piece(1, 3, 5, 0, 100, 10);
        w.wish(0, 0, 0, 3, 5, 5);
        Due.is("white for black", w.dress(0), 90);
        w.set(0, 'c', 99);
        Due.is("and altered", w.dress(0), 110);
        w.set(0, 'c', 149);
        Due.is("45 units", w.dress(0), 990);
        w.set(0, 'c', 150);
        Due.is("dearer than none", w.dress(0), 1000);
        Due.noElement("so none", () -> w.given(0, 0));
    }

    /** "which must be lighter then" */
    private static void lighterThen() {
        for (int colour = 0; colour <= 5; colour++) {
            WardrobeVault v = house(1, 1, 0);
            v.piece(1, 3, 5, colour, 100, 10);
            v.wish(0, 0, 0, 3, 5, 2);
            Due.is("of colour " + colour, v.dress(0), colour < 2 ? 90 : colour == 2 ? 0 : 1000);
        }
    }

    /** "the piece not in the archive" */
    private static void notInTheArchive() {
        WardrobeVault v = house(1, 1, 0);
        v.piece(1, 3, 5, 1, 100, 10);
        v.wish(0, 0, 0, 3, 5, 2);
        Due.is("dyed", v.dress(0), 90);
        v.set(0, 'a', 1);
        Due.is("not in the archive", v.dress(0), 1000);
        WardrobeVault w = one();
        w.set(0, 'a', 1);
        Due.is("as it is", w.dress(0), 0);
        w.set(0, 'w', 105);
        Due.is("not altered in the archive", w.dress(0), 1000);
    }

    /** "a costume without a piece costs 1000" */
    private static void thousandWithoutAPiece() {
        WardrobeVault v = house(10, 1, 0);
        Due.is("no costume", v.dress(0), 0);
        for (int n = 0; n < 30; n++) {
            v.wish(0, 0, n / 7, n % 7, 0, 0);
            Due.is("costumes", v.dress(0), 1000 * (n + 1));
        }
    }

    /** "The way with the least sum is taken" */
    private static void leastSum() {
        WardrobeVault v = house(2, 1, 0);
        v.measure(1, 0, 102, 100, 100);
        v.piece(1, 0, 0, 0, 102, 1);
        v.piece(1, 0, 0, 0, 100, 1);
        v.wish(0, 0, 0, 0, 0, 0);
        v.wish(0, 0, 1, 0, 0, 0);
        Due.is("not the first one's lowest", v.dress(0), 0);
        Due.is("first", v.given(0, 0), 1);
        Due.is("second", v.given(0, 1), 0);
    }

    /** "of several, ...: the lower piece" */
    private static void lowerPiece() {
        WardrobeVault v = one();
        v.piece(0, 3, 5, 2, 104, 1);
        v.piece(0, 3, 5, 2, 102, 1);
        Due.is("cost", v.dress(0), 0);
        Due.is("the lowest", v.given(0, 0), 0);
        v.quarantine(0);
        v.dress(0);
        Due.is("the next one", v.given(0, 0), 1);
        v.set(1, 'c', 99);
        v.dress(0);
        Due.is("the cheaper one", v.given(0, 0), 2);
    }

    /** "none being last" */
    private static void noneIsLast() {
        WardrobeVault v = one();
        v.set(0, 'c', 154);
        Due.is("50 units", v.dress(0), 1000);
        Due.is("rather than none", v.given(0, 0), 0);
        v.set(0, 'c', 155);
        Due.is("51 units", v.dress(0), 1000);
        Due.noElement("none", () -> v.given(0, 0));
    }

    /** "costumes by rising numbers of the wishes that stand for them tell" */
    private static void lowerWishTellsFirst() {
        WardrobeVault v = house(3, 1, 0);
        v.piece(1, 0, 0, 0, 100, 1);
        v.wish(0, 0, 2, 0, 0, 0);
        v.wish(0, 0, 0, 0, 0, 0);
        v.wish(0, 0, 1, 0, 0, 0);
        v.dress(0);
        Due.is("wish 0", v.given(0, 0), 0);
        v.piece(1, 0, 0, 0, 101, 1);
        v.dress(0);
        Due.is("wish 0 again", v.given(0, 0), 0);
        Due.is("wish 1", v.given(0, 1), 1);
        Due.noElement("wish 2", () -> v.given(0, 2));
        v.set(0, 'c', 105);
        Due.is("its cost is the same for all", v.dress(0), 1020);
        Due.is("wish 0 has the dear one", v.given(0, 0), 0);
    }

    /** "Nothing is altered by that." */
    private static void nothingIsAltered() {
        WardrobeVault v = house(1, 1, 0);
        v.piece(1, 3, 5, 0, 99, 10);
        v.wish(0, 0, 0, 3, 5, 2);
        Due.is("cost", v.dress(0), 150);
        Due.is("once more", v.dress(0), 150);
        Due.is("size", v.told(0, 'c'), 99);
        Due.is("colour", v.told(0, 'o'), 0);
        Due.is("allowance", v.allowance(0, 'c'), 3);
        Due.noElement("no alteration", () -> v.undo(0));
        Due.is("place", v.place(0), 'r');
    }

    /** "What was given to the show before is forgotten." */
    private static void forgottenByDressing() {
        WardrobeVault v = one();
        v.show();
        v.scene(1, 1, 1);
        v.wish(1, 0, 0, 3, 5, 2);
        v.dress(0);
        v.dress(1);
        v.quarantine(0);
        Due.is("given still", v.given(0, 0), 0);
        Due.is("none now", v.dress(0), 1000);
        Due.noElement("forgotten", () -> v.given(0, 0));
        Due.is("not of the other show", v.given(1, 0), 0);
    }

    private static void forgottenByAWish() {
        WardrobeVault v = one();
        v.dress(0);
        v.show();
        v.scene(1, 1, 1);
        v.wish(1, 0, 0, 3, 5, 2);
        Due.is("another show's wish", v.given(0, 0), 0);
        v.scene(0, 1, 1);
        v.body();
        Due.is("a scene, a body", v.given(0, 0), 0);
        v.wish(0, 1, 0, 6, 0, 0);
        Due.noElement("forgotten", () -> v.given(0, 0));
        Due.is("costumes stay", v.costumes(0), 2);
    }

    /** "all pieces that were given ... are dyed, and altered for the day of this" */
    private static void fitForToday() {
        WardrobeVault v = one();
        v.measure(0, 9, 109, 91, 100);
        v.dress(0);
        Due.is("it fits on day 0", v.fit(0), 0);
        v.pass(1);
        Due.is("day 1", v.fit(0), 1);
        Due.is("chest", v.told(0, 'c'), 101);
        Due.is("waist", v.told(0, 'w'), 100);
        v.pass(2);
        Due.is("day 3", v.fit(0), 1);
        Due.is("chest then", v.told(0, 'c'), 103);
        Due.is("waist still up to 4 more", v.told(0, 'w'), 100);
        v.pass(3);
        Due.is("the chest bars it", v.fit(0), 0);
        v.measure(0, 9, 100, 91, 100);
        v.pass(3);
        Due.is("day 9", v.fit(0), 1);
        Due.is("waist then", v.told(0, 'w'), 95);
        Due.is("three can be undone: two more", v.undo(0), 2);
    }

    /** "on rails" */
    private static void fitOnRails() {
        for (int at = 0; at < 4; at++) {
            WardrobeVault v = house(1, 1, 0);
            v.piece(1, 3, 5, 0, 99, 10);
            v.wish(0, 0, 0, 3, 5, 2);
            v.dress(0);
            if (at == 0) {
                v.quarantine(0);
            } else if (at == 1) {
                v.hire(0, 1, 0);
            } else {
                v.pack(0);
            }
            if (at == 3) {
                v.lose(0);
            }
            Due.is("not at " + v.place(0), v.fit(0), 0);
            Due.is("as it was", v.told(0, 'o') * 1000 + v.told(0, 'c'), 99);
        }
    }

    /** "each of both by itself, if it can be still" */
    private static void eachOfBothByItself() {
        // Size, colour, how many are changed, size and colour then; wished are 100 and 2.
        int[][] due = {{99, 0, 1, 100, 2}, {100, 0, 1, 100, 2}, {99, 2, 1, 100, 2}, {100, 2, 0, 100, 2},
            {96, 0, 1, 96, 2}, {99, 3, 1, 100, 3}, {96, 3, 0, 96, 3}, {105, 5, 1, 104, 5}};
        for (int[] each : due) {
            WardrobeVault v = house(1, 1, 0);
            v.piece(1, 3, 5, 0, 100, 10);
            v.wish(0, 0, 0, 3, 5, 2);
            v.dress(0);
            v.set(0, 'w', each[0]);
            if (each[1] > 0) {
                v.dye(0, each[1]);
            }
            Due.is("changed from " + each[0] + " and " + each[1], v.fit(0), each[2]);
            Due.is("size", v.told(0, 'w'), each[3]);
            Due.is("colour", v.told(0, 'o'), each[4]);
            Due.is("once more", v.fit(0), 0);
        }
    }

    private static void fitNothing() {
        WardrobeVault v = one();
        Due.is("not dressed", v.fit(0), 0);
        v.show();
        Due.is("no wishes", v.fit(1), 0);
        WardrobeVault w = house(2, 1, 0);
        w.piece(1, 1, 0, 0, 99, 1);
        w.piece(1, 2, 0, 0, 99, 1);
        w.wish(0, 0, 0, 0, 0, 0);
        w.wish(0, 0, 0, 1, 0, 0);
        w.wish(0, 0, 1, 2, 0, 0);
        w.dress(0);
        Due.is("all but the one without a piece", w.fit(0), 2);
    }

    /** A body with a piece of each layer in scene 0, and of the layers told, the same, in scene 1. */
    private static WardrobeVault layered(String same, String other, int seconds) {
        WardrobeVault v = house(1, 2, seconds);
        for (int layer = 0; layer < 7; layer++) {
            v.piece(1, layer, 0, 0, 100, 1 << layer);
            v.piece(2, layer, 1, 0, 100, 1);
            v.set(2 * layer, 'f', 1 + layer);
            v.set(2 * layer + 1, 'f', 8 * (1 + layer));
            v.wish(0, 0, 0, layer, 0, 0);
            if (same.indexOf('0' + layer) >= 0) {
                v.wish(0, 1, 0, layer, 0, 0);
            }
            if (other.indexOf('0' + layer) >= 0) {
                v.wish(0, 1, 0, layer, 1, 0);
            }
        }
        Due.is("dressed", v.dress(0), 0);
        return v;
    }

    /** "layers without a wish are bare" */
    private static void layersWithoutAWishAreBare() {
        Due.is("all off", layered("", "", 600).change(0, 0, 0, 0), 28);
        Due.is("all but the skin's off", layered("0", "", 600).change(0, 0, 0, 0), 27);
        Due.is("the outermost one off", layered("012345", "", 600).change(0, 0, 0, 0), 7);
        WardrobeVault v = house(1, 2, 600);
        v.piece(1, 0, 0, 0, 100, 1);
        v.wish(0, 1, 0, 0, 0, 0);
        v.dress(0);
        Due.is("from bare", v.change(0, 0, 0, 0), 6);
        v.body();
        Due.is("bare all the time", v.change(0, 0, 1, 0), 0);
    }

    /** "all down to the innermost one that is unlike in the next scene, and puts on what the next scene has" */
    private static void downToTheInnermostUnlike() {
        Due.is("the outermost one", layered("012345", "6", 600).change(0, 0, 0, 0), 7 + 56);
        Due.is("the innermost one", layered("123456", "0", 600).change(0, 0, 0, 0), 28 + 8 + 27);
        Due.is("one in the middle", layered("012456", "3", 600).change(0, 0, 0, 0), 22 + 32 + 18);
        Due.is("a bare one in the middle", layered("012456", "", 600).change(0, 0, 0, 0), 22 + 18);
        Due.is("the innermost of two", layered("01346", "25", 600).change(0, 0, 0, 0), 25 + 24 + 4 + 5 + 48 + 7);
    }

    private static void nothingUnlike() {
        Due.is("all alike", layered("0123456", "", 600).change(0, 0, 0, 0), 0);
        WardrobeVault v = house(1, 2, 0);
        v.wish(0, 0, 0, 3, 0, 0);
        v.wish(0, 1, 0, 3, 1, 0);
        v.dress(0);
        Due.is("both without a piece", v.change(0, 0, 0, 0), 0);
        Due.is("so none is needed", v.needed(0, 0), 0);
    }

    private static void samePieceIsAlike() {
        WardrobeVault v = house(1, 3, 600);
        v.piece(1, 0, 0, 0, 100, 1);
        v.piece(1, 0, 0, 0, 100, 1);
        v.wish(0, 0, 0, 0, 0, 0);
        v.wish(0, 2, 0, 0, 0, 0);
        v.dress(0);
        Due.is("off", v.change(0, 0, 0, 0), 6);
        Due.is("another one on", v.change(0, 1, 0, 0), 6);
        v.wish(0, 1, 0, 0, 0, 0);
        v.dress(0);
        Due.is("one costume", v.change(0, 0, 0, 0) + v.change(0, 1, 0, 0), 0);
    }

    /** "Each piece takes as many seconds, off or on, as its fastening tells, 6 at first, 1 to 60." */
    private static void fastenings() {
        WardrobeVault v = house(1, 3, 600);
        v.piece(1, 0, 0, 0, 100, 1);
        v.wish(0, 1, 0, 0, 0, 0);
        v.dress(0);
        int[] seconds = {6, 1, 60};
        for (int each : seconds) {
            if (each != 6) {
                v.set(0, 'f', each);
            }
            Due.is("on", v.change(0, 0, 0, 0), each);
            Due.is("off", v.change(0, 1, 0, 0), each);
        }
        Due.noArgument("0", () -> v.set(0, 'f', 0));
        Due.noArgument("61", () -> v.set(0, 'f', 61));
    }

    /** "With dressers, 0 to 3, it takes the sum divided by 1 more than their number, rounded up." */
    private static void sharedAndRoundedUp() {
        int[][] due = {{1, 1, 1, 1, 1}, {2, 2, 1, 1, 1}, {3, 3, 2, 1, 1}, {4, 4, 2, 2, 1}, {5, 5, 3, 2, 2},
            {12, 12, 6, 4, 3}, {13, 13, 7, 5, 4}, {60, 60, 30, 20, 15}};
        WardrobeVault v = house(1, 2, 600);
        v.piece(1, 0, 0, 0, 100, 1);
        v.wish(0, 1, 0, 0, 0, 0);
        v.dress(0);
        for (int[] each : due) {
            v.set(0, 'f', each[0]);
            for (int dressers = 0; dressers <= 3; dressers++) {
                Due.is(each[0] + " by " + dressers, v.change(0, 0, 0, dressers), each[1 + dressers]);
            }
        }
        Due.noArgument("-1", () -> v.change(0, 0, 0, -1));
        Due.noArgument("4", () -> v.change(0, 0, 0, 4));
    }

    private static void noDressersNeeded() {
        Due.is("just in time alone", layered("012345", "", 7).needed(0, 0), 0);
        Due.is("a second less", layered("012345", "", 6).needed(0, 0), 1);
        WardrobeVault v = house(0, 2, 0);
        Due.is("no bodies", v.needed(0, 0), 0);
        v.body();
        Due.is("nothing to change", v.needed(0, 0), 0);
    }

    private static void threeAtMostForOne() {
        // 28 seconds of work: 28, 14, 10, 7.
        int[][] due = {{28, 0}, {27, 1}, {14, 1}, {13, 2}, {10, 2}, {9, 3}, {7, 3}};
        for (int[] each : due) {
            Due.is("in " + each[0], layered("", "", each[0]).needed(0, 0), each[1]);
        }
        Due.noElement("not with 3", () -> layered("", "", 6).needed(0, 0));
        WardrobeVault v = layered("", "", 6);
        v.dressers(20);
        Due.unsupported("not with 20 either", () -> v.play(0));
    }

    /** "if dressers can be shared out so that all bodies have changed" */
    private static void sharedOutOverBodies() {
        WardrobeVault v = house(4, 2, 30);
        int[] fastening = {60, 30, 59, 31};
        for (int n = 0; n < 4; n++) {
            v.piece(1, 0, n, 0, 100, 1);
            v.piece(2, 1, n, 0, 100, 1);
            v.set(2 * n, 'f', fastening[n]);
            v.set(2 * n + 1, 'f', n == 0 ? 60 : n == 1 ? 60 : 1);
            v.wish(0, 1, n, 0, n, 0);
            v.wish(0, 1, n, 1, n, 0);
        }
        v.dress(0);
        // 120, 90, 60 and 32 seconds of work: 3, 2, 1 and 1 dressers.
        Due.is("over all bodies", v.needed(0, 0), 7);
        v.dressers(6);
        Due.unsupported("one too few", () -> v.play(0));
        v.dressers(7);
        Due.is("just as many", v.play(0), 8);
        v.set(0, 'f', 1);
        v.set(1, 'f', 1);
        Due.is("one body needs none", v.needed(0, 0), 4);
        v.set(6, 'f', 60);
        v.set(7, 'f', 60);
        v.set(0, 'f', 60);
        v.set(1, 'f', 60);
        Due.is("10 are not too many", v.needed(0, 0), 3 + 2 + 1 + 3);
    }

    /** "within the seconds behind the scene" */
    private static void withinTheSeconds() {
        WardrobeVault v = house(1, 0, 0);
        int[] seconds = {600, 20, 19, 0};
        for (int each : seconds) {
            v.scene(0, 1, each);
        }
        v.piece(1, 0, 0, 0, 100, 1);
        v.set(0, 'f', 60);
        v.wish(0, 1, 0, 0, 0, 0);
        v.wish(0, 2, 0, 0, 0, 0);
        v.dress(0);
        Due.is("behind scene 0", v.needed(0, 0), 0);
        Due.is("behind scene 1 is no change", v.needed(0, 1), 0);
        Due.is("behind scene 2", v.needed(0, 2), 3);
        v.dressers(2);
        Due.unsupported("the slowest scene tells", () -> v.play(0));
        v.dressers(3);
        Due.is("with all", v.play(0), 1);
    }

    private static void noSeconds() {
        Due.is("0 seconds, nothing to do", layered("0123456", "", 0).needed(0, 0), 0);
        Due.noElement("0 seconds, one piece", () -> layered("012345", "", 0).needed(0, 0));
        WardrobeVault v = house(1, 1, 0);
        v.piece(1, 0, 0, 0, 100, 1);
        v.wish(0, 0, 0, 0, 0, 0);
        v.dress(0);
        v.dressers(0);
        Due.is("behind the last scene there is no change", v.play(0), 1);
    }

    /** "A neck bears the weights of the outermost two layers that it wears" */
    private static void outermostTwoLayers() {
        WardrobeVault v = house(1, 1, 0);
        for (int layer = 0; layer < 7; layer++) {
            v.piece(1, layer, 0, 0, 100, 1 << layer);
        }
        Due.is("not dressed", v.neck(0, 0), 0);
        int[] order = {3, 0, 6, 1, 5};
        int[] due = {8, 8 + 1, 64 + 8, 64 + 8, 64 + 32};
        for (int n = 0; n < order.length; n++) {
            v.wish(0, 0, 0, order[n], 0, 0);
            Due.is("forgotten", v.neck(0, 0), 0);
            v.dress(0);
            Due.is("with layer " + order[n], v.neck(0, 0), 10 * due[n]);
        }
        v.quarantine(6);
        Due.is("given still", v.neck(0, 0), 10 * (64 + 32));
        v.dress(0);
        Due.is("the outermost wish without a piece", v.neck(0, 0), 10 * (32 + 8));
    }

    /** "in each scene times its minutes" */
    private static void timesTheMinutes() {
        WardrobeVault v = house(2, 0, 0);
        int[] minutes = {1, 99, 50};
        for (int each : minutes) {
            v.scene(0, each, 0);
        }
        v.piece(1, 0, 0, 0, 100, 99);
        v.piece(1, 1, 0, 0, 100, 98);
        v.wish(0, 0, 0, 0, 0, 0);
        v.wish(0, 1, 0, 0, 0, 0);
        v.wish(0, 1, 0, 1, 0, 0);
        v.dress(0);
        Due.is("scene by scene", v.neck(0, 0), 99 + 99 * (99 + 98));
        Due.is("another body", v.neck(0, 1), 0);
    }

    /** "each one's wear is 2 more, and it is not clean" */
    private static void twoMoreOfWear() {
        WardrobeVault v = one();
        v.piece(1, 3, 5, 2, 100, 10);
        v.dress(0);
        Due.is("one worn", v.play(0), 1);
        Due.is("wear", v.told(0, 'u'), 2);
        Due.is("not clean", v.told(0, 's'), 0);
        Due.is("not given, not worn", v.told(1, 'u') * 10 + v.told(1, 's'), 1);
        Due.is("not clean, worn again", v.play(0), 1);
        Due.is("wear again", v.told(0, 'u'), 4);
    }

    private static void wornOnceANight() {
        WardrobeVault v = house(1, 3, 600);
        v.piece(1, 0, 0, 0, 100, 1);
        for (int scene = 0; scene < 3; scene++) {
            v.wish(0, scene, 0, 0, 0, 0);
        }
        v.dress(0);
        Due.is("one piece in three scenes", v.play(0), 1);
        Due.is("wear", v.told(0, 'u'), 2);
    }

    /** "It is refused if some costume has no such piece" */
    private static void refusedWithoutAPiece() {
        WardrobeVault v = one();
        Due.unsupported("not dressed", () -> v.play(0));
        v.wish(0, 0, 0, 4, 0, 0);
        v.dress(0);
        Due.unsupported("the last one has none", () -> v.play(0));
        Due.is("nothing is worn", v.told(0, 'u') * 10 + v.told(0, 's'), 1);
        v.piece(1, 4, 0, 0, 100, 1);
        Due.unsupported("not yet given", () -> v.play(0));
        v.dress(0);
        Due.is("both", v.play(0), 2);
    }

    private static void refusedOnNoRail() {
        WardrobeVault v = one();
        v.dress(0);
        v.quarantine(0);
        Due.unsupported("in quarantine", () -> v.play(0));
        v.hang(0, 3);
        Due.is("on another rail", v.play(0), 1);
        v.hire(0, 1, 0);
        Due.unsupported("hired out", () -> v.play(0));
        v.takeBack(0, 98);
        Due.is("worn out", v.play(0), 1);
        v.pack(0);
        Due.unsupported("in a trunk", () -> v.play(0));
        v.lose(0);
        Due.unsupported("gone", () -> v.play(0));
    }

    private static void refusedIfItDoesNotFit() {
        for (char kind : "cwl".toCharArray()) {
            WardrobeVault v = one();
            v.dress(0);
            int[][] due = {{99, 0}, {100, 1}, {104, 1}, {105, 0}};
            for (int[] each : due) {
                v.set(0, kind, each[0]);
                Due.same("at " + each[0], Due.thrownBy(() -> v.play(0)),
                    each[1] == 1 ? "nothing" : "UnsupportedOperationException");
            }
        }
        WardrobeVault v = one();
        v.measure(0, 1, 101, 101, 101);
        v.dress(0);
        Due.is("it fits today", v.play(0), 1);
        v.pass(1);
        Due.unsupported("not the day after", () -> v.play(0));
        WardrobeVault w = house(1, 1, 0);
        w.piece(1, 3, 5, 0, 100, 10);
        w.wish(0, 0, 0, 3, 5, 2);
        w.dress(0);
        Due.is("of another colour still", w.play(0), 1);
    }

    /** "or if a change is not possible with the dressers that there are" */
    private static void refusedWithTooFewDressers() {
        int[][] due = {{28, 0}, {14, 1}, {10, 2}, {7, 3}};
        for (int[] each : due) {
            for (int dressers = 0; dressers <= 3; dressers++) {
                WardrobeVault v = layered("", "", each[0]);
                v.dressers(dressers);
                Due.same(dressers + " in " + each[0], Due.thrownBy(() -> v.play(0)),
                    dressers >= each[1] ? "nothing" : "UnsupportedOperationException");
            }
        }
    }

    /** "2 at first" */
    private static void twoDressersAtFirst() {
        Due.is("with 2", layered("", "", 10).play(0), 7);
        Due.unsupported("not with 3", () -> layered("", "", 9).play(0));
        WardrobeVault v = new WardrobeVault();
        Due.is("told", v.dressers(20), 2);
        Due.is("20 are the most", v.dressers(0), 20);
        Due.is("none", v.dressers(1), 0);
        Due.noArgument("21", () -> v.dressers(21));
        Due.noArgument("-1", () -> v.dressers(-1));
        Due.is("as before", v.dressers(2), 1);
    }

    private static void noWishes() {
        WardrobeVault v = new WardrobeVault();
        v.show();
        Due.is("no scenes, no wishes", v.play(0), 0);
        v.scene(0, 1, 0);
        v.scene(0, 1, 0);
        Due.is("no wishes", v.play(0), 0);
        Due.is("no costumes", v.costumes(0), 0);
        Due.is("no cost", v.dress(0), 0);
    }
}
