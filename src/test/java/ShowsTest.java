/** Promises 16 to 27: show, scene, wish, costumes, dress, given, fit, change, needed, dressers, neck, play. */
final class ShowsTest {
    private ShowsTest() {
    }

    public static void main(String[] args) {
        showsAndScenes();
        wishWrong();
        wishLimit();
        costumes();
        standers();
        dressCosts();
        dressBars();
        dressTies();
        dressForgets();
        givenWrong();
        fitting();
        fitsEachByItself();
        changes();
        changeWrong();
        needs();
        dressers();
        necks();
        plays();
        playRefused();
        playRefusedByChange();
        Due.end();
    }

    /** A vault with bodies of 100 and one show with scenes of 10 minutes and 60 seconds behind. */
    private static WardrobeVault house(int bodies, int scenes) {
        WardrobeVault v = new WardrobeVault();
        for (int n = 0; n < bodies; n++) {
            v.body();
        }
        v.show();
        for (int n = 0; n < scenes; n++) {
            v.scene(0, 10, 60);
        }
        return v;
    }

    private static void showsAndScenes() {
        WardrobeVault v = new WardrobeVault();
        Due.noIndex("17 no show", () -> v.scene(0, 0, 0));
        Due.noIndex("19 no show", () -> v.costumes(0));
        Due.noIndex("20 no show", () -> v.dress(0));
        Due.noIndex("22 no show", () -> v.fit(0));
        Due.noIndex("27 no show", () -> v.play(0));
        for (int n = 0; n < 3; n++) {
            Due.is("16 number", v.show(), n);
        }
        Due.badState("16 three", v::show);
        Due.noIndex("17 show 3", () -> v.scene(3, 1, 1));
        Due.noIndex("17 show -1", () -> v.scene(-1, 1, 1));
        Due.noArgument("17 minutes 0", () -> v.scene(2, 0, 0));
        Due.noArgument("17 minutes 100", () -> v.scene(2, 100, 0));
        Due.noArgument("17 seconds -1", () -> v.scene(2, 1, -1));
        Due.noArgument("17 seconds 601", () -> v.scene(2, 1, 601));
        for (int n = 1; n <= 6; n++) {
            Due.is("17 how many", v.scene(2, n % 2 == 0 ? 1 : 99, n % 2 == 0 ? 0 : 600), n);
        }
        Due.badState("17 six", () -> v.scene(2, 1, 0));
        Due.noArgument("17 argument ahead of six", () -> v.scene(2, 0, 0));
        Due.is("17 of another show", v.scene(1, 1, 0), 1);
        Due.is("20 nothing wished", v.dress(2), 0);
        Due.is("22 nothing given", v.fit(2), 0);
        Due.is("27 nothing to wear", v.play(2), 0);
        for (int far : new int[] {Integer.MIN_VALUE, -1, 3, Integer.MAX_VALUE}) {
            Due.noIndex("19 show " + far, () -> v.costumes(far));
            Due.noIndex("20 show " + far, () -> v.dress(far));
            Due.noIndex("22 show " + far, () -> v.fit(far));
            Due.noIndex("27 show " + far, () -> v.play(far));
        }
    }

    private static void wishWrong() {
        WardrobeVault v = house(2, 2);
        Due.is("18 first", v.wish(0, 1, 1, 6, 9, 5), 0);
        Due.noIndex("18 show 1", () -> v.wish(1, 0, 0, 7, 0, 0));
        Due.noIndex("18 show -1", () -> v.wish(-1, 0, 0, 0, 0, 0));
        Due.noIndex("18 scene 2", () -> v.wish(0, 2, 0, 7, 0, 0));
        Due.noIndex("18 scene -1", () -> v.wish(0, -1, 0, 0, 0, 0));
        Due.noIndex("18 body 2", () -> v.wish(0, 0, 2, 7, 0, 0));
        Due.noIndex("18 body -1", () -> v.wish(0, 0, -1, 0, 0, 0));
        Due.noArgument("18 layer 7", () -> v.wish(0, 1, 1, 7, 0, 0));
        Due.noArgument("18 layer -1", () -> v.wish(0, 1, 1, -1, 0, 0));
        Due.noArgument("18 period 10", () -> v.wish(0, 1, 1, 6, 10, 0));
        Due.noArgument("18 period -1", () -> v.wish(0, 1, 1, 6, -1, 0));
        Due.noArgument("18 colour 6", () -> v.wish(0, 1, 1, 6, 0, 6));
        Due.noArgument("18 colour -1", () -> v.wish(0, 1, 1, 6, 0, -1));
        Due.unsupported("18 told before", () -> v.wish(0, 1, 1, 6, 0, 0));
        Due.is("18 other layer", v.wish(0, 1, 1, 5, 9, 5), 1);
        Due.is("18 other body", v.wish(0, 1, 0, 6, 9, 5), 2);
        Due.is("18 other scene", v.wish(0, 0, 1, 6, 0, 0), 3);
        v.show();
        v.scene(1, 1, 1);
        Due.is("18 other show", v.wish(1, 0, 1, 6, 0, 0), 0);
    }

    private static void wishLimit() {
        WardrobeVault v = house(10, 1);
        for (int n = 0; n < 30; n++) {
            Due.is("18 number", v.wish(0, 0, n / 7, n % 7, 0, 0), n);
        }
        Due.badState("18 thirty", () -> v.wish(0, 0, 9, 0, 0, 0));
        Due.unsupported("18 told ahead of thirty", () -> v.wish(0, 0, 0, 0, 0, 0));
        Due.noArgument("18 argument ahead of thirty", () -> v.wish(0, 0, 9, 7, 0, 0));
        Due.is("19 thirty", v.costumes(0), 30);
        Due.is("20 thirty without a piece", v.dress(0), 30000);
    }

    private static void costumes() {
        WardrobeVault v = house(2, 6);
        Due.is("19 none", v.costumes(0), 0);
        v.wish(0, 0, 0, 0, 1, 1);
        v.wish(0, 2, 0, 0, 1, 1);
        Due.is("19 a scene between", v.costumes(0), 2);
        v.wish(0, 1, 1, 0, 1, 1);
        Due.is("19 another body", v.costumes(0), 3);
        v.wish(0, 1, 0, 1, 1, 1);
        Due.is("19 another layer", v.costumes(0), 4);
        v.wish(0, 1, 0, 0, 1, 1);
        Due.is("19 the gap closed", v.costumes(0), 3);
        v.wish(0, 3, 0, 0, 1, 2);
        Due.is("19 another colour", v.costumes(0), 4);
        v.wish(0, 4, 0, 0, 2, 2);
        Due.is("19 another period", v.costumes(0), 5);
        v.wish(0, 5, 0, 0, 2, 2);
        Due.is("19 the same", v.costumes(0), 5);
    }

    /** The wish told first stands for its costume, wherever its scene is. */
    private static void standers() {
        WardrobeVault v = house(2, 3);
        v.piece(1, 0, 0, 0, 100, 1);
        v.piece(1, 0, 0, 0, 100, 1);
        v.wish(0, 2, 1, 0, 0, 0);
        v.wish(0, 0, 0, 0, 0, 0);
        v.wish(0, 0, 1, 0, 0, 0);
        v.wish(0, 1, 1, 0, 0, 0);
        Due.is("19 two", v.costumes(0), 2);
        Due.is("20 both", v.dress(0), 0);
        Due.is("21 the lowest wish takes the lowest piece", v.given(0, 0), 0);
        Due.is("21 joined", v.given(0, 2), 0);
        Due.is("21 joined", v.given(0, 3), 0);
        Due.is("21 the other costume", v.given(0, 1), 1);
    }

    private static void dressCosts() {
        WardrobeVault v = house(2, 1);
        v.piece(1, 2, 5, 0, 97, 1);
        v.wish(0, 0, 0, 2, 5, 0);
        Due.is("20 let out", v.dress(0), 180);
        Due.is("20 nothing is altered", v.told(0, 'c'), 97);
        v.piece(1, 2, 5, 0, 106, 1);
        Due.is("20 taken in is cheaper", v.dress(0), 120);
        Due.is("21 that", v.given(0, 0), 1);
        v.piece(1, 2, 5, 0, 100, 1);
        v.wish(0, 0, 1, 2, 5, 1);
        Due.is("20 the least sum", v.dress(0), 120 + 90);
        Due.is("21 the lowest of the ways", v.given(0, 0), 1);
        Due.is("21 dyed", v.given(0, 1), 2);
        v.measure(0, 10, 110, 110, 110);
        v.pass(10);
        Due.is("20 let out by 4 is too much", v.dress(0), 1000 + 90);
        Due.noElement("21 none that day", () -> v.given(0, 0));
        Due.is("21 dyed that day", v.given(0, 1), 2);
        v.measure(0, 10, 109, 109, 109);
        Due.is("20 let out by 3", v.dress(0), 180 + 90);
        Due.is("21 that one", v.given(0, 0), 1);
    }

    private static void dressBars() {
        WardrobeVault v = house(1, 1);
        v.wish(0, 0, 0, 3, 5, 3);
        Due.is("20 no pieces", v.dress(0), 1000);
        v.piece(1, 2, 5, 3, 100, 1);
        v.piece(1, 3, 4, 3, 100, 1);
        v.piece(1, 3, 5, 4, 100, 1);
        Due.is("20 layer, period, darker", v.dress(0), 1000);
        Due.noElement("21 none", () -> v.given(0, 0));
        v.piece(1, 3, 5, 2, 100, 1);
        Due.is("20 lighter", v.dress(0), 90);
        v.set(3, 'a', 1);
        Due.is("20 no dye in the archive", v.dress(0), 1000);
        v.piece(1, 3, 5, 3, 100, 1);
        v.set(4, 'a', 1);
        Due.is("20 as it is, in the archive", v.dress(0), 0);
        v.set(4, 'c', 99);
        Due.is("20 no cut in the archive", v.dress(0), 1000);
        v.set(4, 'a', 0);
        Due.is("20 cut", v.dress(0), 20);
        v.quarantine(4);
        Due.is("20 on no rail", v.dress(0), 1000);
        v.hang(4, 2);
        v.hire(4, 1, 0);
        v.takeBack(4, 100);
        Due.is("20 worn out", v.dress(0), 1000);
        v.piece(1, 3, 5, 3, 150, 1);
        Due.is("20 dearer than none", v.dress(0), 1000);
        v.piece(1, 3, 5, 3, 100, 1);
        v.dress(0);
        v.play(0);
        Due.is("20 not clean", v.dress(0), 1000);
        v.wash();
        Due.is("20 clean again", v.dress(0), 0);
        v.moths(6);
        Due.is("20 with moths", v.dress(0), 0);
    }

    private static void dressTies() {
        WardrobeVault v = house(3, 1);
        v.piece(1, 0, 0, 0, 150, 1);
        v.set(0, 'c', 122);
        v.set(0, 'w', 120);
        v.set(0, 'l', 120);
        v.wish(0, 0, 0, 0, 0, 0);
        Due.is("20 as dear as none", v.dress(0), 1000);
        Due.is("21 none is the last", v.given(0, 0), 0);
        v.wish(0, 0, 1, 0, 0, 0);
        Due.is("20 one of two", v.dress(0), 2000);
        Due.is("21 the lower wish", v.given(0, 0), 0);
        Due.noElement("21 the higher one", () -> v.given(0, 1));
        v.piece(1, 0, 0, 0, 104, 1);
        v.piece(1, 0, 0, 0, 104, 1);
        v.wish(0, 0, 2, 0, 0, 0);
        Due.is("20 three", v.dress(0), 1000);
        Due.is("21 first", v.given(0, 0), 0);
        Due.is("21 second", v.given(0, 1), 1);
        Due.is("21 third", v.given(0, 2), 2);
    }

    private static void dressForgets() {
        WardrobeVault v = house(1, 2);
        v.piece(1, 0, 0, 0, 100, 1);
        v.wish(0, 0, 0, 0, 0, 0);
        v.dress(0);
        v.show();
        v.scene(1, 1, 1);
        v.wish(1, 0, 0, 0, 0, 0);
        Due.is("20 two shows share a piece", v.dress(1), 0);
        Due.is("18 another show's pieces stay", v.given(0, 0), 0);
        v.scene(0, 5, 5);
        Due.is("17 forgets nothing", v.given(0, 0), 0);
        Due.unsupported("18 refused", () -> v.wish(0, 0, 0, 0, 1, 1));
        Due.is("18 a refused one forgets nothing", v.given(0, 0), 0);
        v.wish(0, 1, 0, 1, 0, 0);
        Due.noElement("18 forgets", () -> v.given(0, 0));
        Due.is("21 of the other show", v.given(1, 0), 0);
        Due.is("20 anew", v.dress(0), 1000);
        v.quarantine(0);
        Due.is("21 stays, wherever it is", v.given(0, 0), 0);
        Due.is("20 none now", v.dress(0), 2000);
        Due.noElement("20 forgets", () -> v.given(0, 0));
    }

    private static void givenWrong() {
        WardrobeVault v = house(1, 1);
        v.wish(0, 0, 0, 0, 0, 0);
        Due.noIndex("21 show", () -> v.given(1, 0));
        Due.noIndex("21 show -1", () -> v.given(-1, 0));
        Due.noIndex("21 wish", () -> v.given(0, 1));
        Due.noIndex("21 wish -1", () -> v.given(0, -1));
        Due.noElement("21 not dressed", () -> v.given(0, 0));
    }

    private static void fitting() {
        WardrobeVault v = house(4, 1);
        v.piece(1, 0, 0, 0, 97, 1);
        v.piece(1, 0, 1, 1, 100, 1);
        v.piece(1, 0, 2, 1, 99, 1);
        v.piece(1, 0, 3, 3, 100, 1);
        v.wish(0, 0, 0, 0, 0, 0);
        v.wish(0, 0, 1, 0, 1, 2);
        v.wish(0, 0, 2, 0, 2, 2);
        v.wish(0, 0, 3, 0, 3, 3);
        Due.is("20 sum", v.dress(0), 180 + 90 + 150);
        Due.is("22 changed", v.fit(0), 3);
        Due.is("22 altered", v.told(0, 'c'), 100);
        Due.is("22 can be undone", v.undo(0), 0);
        Due.is("22 dyed", v.told(1, 'o'), 2);
        Due.is("22 both", v.told(2, 'o') * 1000 + v.told(2, 'w'), 2100);
        Due.is("22 once more", v.fit(0), 1);
        Due.is("22 nothing is left", v.fit(0), 0);
        v.measure(3, 5, 103, 103, 103);
        v.pass(5);
        Due.is("22 for today", v.fit(0), 1);
        v.wish(0, 0, 3, 1, 0, 0);
        Due.is("22 nothing is given", v.fit(0), 0);
        v.piece(1, 1, 0, 0, 102, 1);
        v.quarantine(1);
        v.dress(0);
        Due.is("22 some costumes without a piece", v.fit(0), 1);
        Due.is("22 let out", v.told(3, 'l'), 103);
    }

    private static void fitsEachByItself() {
        WardrobeVault v = house(4, 1);
        v.piece(1, 0, 0, 0, 97, 1);
        v.piece(1, 0, 1, 0, 97, 1);
        v.piece(1, 0, 2, 0, 97, 1);
        v.piece(1, 0, 3, 0, 97, 1);
        for (int n = 0; n < 4; n++) {
            v.wish(0, 0, n, 0, n, 2);
        }
        v.dress(0);
        v.set(0, 'c', 90);
        v.dye(1, 4);
        v.set(2, 'a', 1);
        v.quarantine(3);
        Due.is("22 what can be done still", v.fit(0), 2);
        Due.is("22 dyed, not altered", v.told(0, 'o') * 1000 + v.told(0, 'c'), 2090);
        Due.is("22 altered, not dyed", v.told(1, 'o') * 1000 + v.told(1, 'c'), 4100);
        Due.is("22 in the archive", v.told(2, 'o') * 1000 + v.told(2, 'c'), 97);
        Due.is("22 on no rail", v.told(3, 'o') * 1000 + v.told(3, 'c'), 97);
        Due.isTrue("45 sound", v.isSound());
    }

    /** Body 0: layers 0 to 2 in scene 0, of them layer 1 changes and layer 4 comes in scene 1. */
    private static WardrobeVault quickChange(int seconds) {
        WardrobeVault v = new WardrobeVault();
        v.body();
        v.body();
        v.show();
        v.scene(0, 10, seconds);
        v.scene(0, 20, 0);
        int[][] pieces = {{0, 0, 3}, {1, 0, 5}, {2, 0, 7}, {1, 1, 11}, {4, 0, 13}};
        for (int n = 0; n < pieces.length; n++) {
            v.piece(1, pieces[n][0], pieces[n][1], 0, 100, n + 1);
            v.set(n, 'f', pieces[n][2]);
        }
        v.wish(0, 0, 0, 0, 0, 0);
        v.wish(0, 1, 0, 0, 0, 0);
        v.wish(0, 0, 0, 1, 0, 0);
        v.wish(0, 1, 0, 1, 1, 0);
        v.wish(0, 0, 0, 2, 0, 0);
        v.wish(0, 1, 0, 2, 0, 0);
        v.wish(0, 1, 0, 4, 0, 0);
        v.dress(0);
        return v;
    }

    private static void changes() {
        WardrobeVault v = quickChange(60);
        int sum = 5 + 7 + 11 + 7 + 13;
        Due.is("23 alone", v.change(0, 0, 0, 0), sum);
        Due.is("23 one", v.change(0, 0, 0, 1), 22);
        Due.is("23 two", v.change(0, 0, 0, 2), 15);
        Due.is("23 three", v.change(0, 0, 0, 3), 11);
        Due.is("23 bare", v.change(0, 0, 1, 0), 0);
        v.quarantine(3);
        Due.is("23 wherever it is", v.change(0, 0, 0, 0), sum);
        v.dress(0);
        Due.is("23 without a piece", v.change(0, 0, 0, 0), sum - 11);
        v.quarantine(1);
        v.dress(0);
        Due.is("23 bare in both, from layer 4 on", v.change(0, 0, 0, 0), 13);
        v.wish(0, 0, 1, 0, 0, 0);
        Due.is("23 forgotten", v.change(0, 0, 0, 0), 0);
    }

    private static void changeWrong() {
        WardrobeVault v = quickChange(60);
        Due.noIndex("23 show", () -> v.change(1, 0, 0, 0));
        Due.noIndex("23 show -1", () -> v.change(-1, 0, 0, 0));
        Due.noIndex("23 last scene", () -> v.change(0, 1, 0, 9));
        Due.noIndex("23 scene 2", () -> v.change(0, 2, 0, 0));
        Due.noIndex("23 scene -1", () -> v.change(0, -1, 0, 0));
        Due.noIndex("23 body", () -> v.change(0, 0, 2, 4));
        Due.noIndex("23 body -1", () -> v.change(0, 0, -1, 0));
        Due.noArgument("23 dressers -1", () -> v.change(0, 0, 0, -1));
        Due.noArgument("23 dressers 4", () -> v.change(0, 0, 0, 4));
        Due.noIndex("24 show", () -> v.needed(1, 0));
        Due.noIndex("24 show -1", () -> v.needed(-1, 0));
        Due.noIndex("24 last scene", () -> v.needed(0, 1));
        Due.noIndex("24 scene -1", () -> v.needed(0, -1));
        Due.noIndex("24 scene max", () -> v.needed(0, Integer.MAX_VALUE));
        v.show();
        Due.noIndex("24 no scenes", () -> v.needed(1, 0));
        Due.noIndex("24 no scenes, -1", () -> v.needed(1, -1));
    }

    private static void needs() {
        int[][] due = {{43, 0}, {42, 1}, {22, 1}, {21, 2}, {15, 2}, {14, 3}, {11, 3}, {600, 0}};
        for (int[] each : due) {
            Due.is("24 in " + each[0], quickChange(each[0]).needed(0, 0), each[1]);
        }
        Due.noElement("24 too slow", () -> quickChange(10).needed(0, 0));
        WardrobeVault v = house(3, 3);
        for (int body = 0; body < 3; body++) {
            v.piece(1, 0, body, 0, 100, 1);
            v.set(body, 'f', 60);
            v.wish(0, 1, body, 0, body, 0);
        }
        v.dress(0);
        Due.is("24 just in time", v.needed(0, 0), 0);
        v.set(0, 'f', 1);
        v.piece(1, 1, 0, 0, 100, 1);
        v.set(3, 'f', 60);
        v.wish(0, 1, 0, 1, 0, 0);
        v.dress(0);
        Due.is("24 one of them", v.needed(0, 0), 1);
        v.piece(1, 1, 1, 0, 100, 1);
        v.set(4, 'f', 60);
        v.wish(0, 1, 1, 1, 1, 0);
        v.dress(0);
        Due.is("24 shared out", v.needed(0, 0), 2);
        Due.is("24 off again", v.needed(0, 1), 2);
    }

    private static void dressers() {
        WardrobeVault v = new WardrobeVault();
        Due.is("25 first", v.dressers(20), 2);
        Due.noArgument("25 above", () -> v.dressers(21));
        Due.noArgument("25 below", () -> v.dressers(-1));
        Due.is("25 then", v.dressers(0), 20);
        Due.is("25 none", v.dressers(7), 0);
    }

    private static void necks() {
        WardrobeVault v = quickChange(60);
        Due.is("26 outermost two", v.neck(0, 0), 10 * (3 + 2) + 20 * (5 + 3));
        Due.is("26 bare", v.neck(0, 1), 0);
        v.quarantine(2);
        Due.is("26 wherever it is", v.neck(0, 0), 10 * (3 + 2) + 20 * (5 + 3));
        v.dress(0);
        Due.is("26 layers without a piece", v.neck(0, 0), 10 * (2 + 1) + 20 * (5 + 4));
        v.quarantine(1);
        v.dress(0);
        Due.is("26 one layer", v.neck(0, 0), 10 * 1 + 20 * (5 + 4));
        Due.noIndex("26 show", () -> v.neck(1, 0));
        Due.noIndex("26 show -1", () -> v.neck(-1, 0));
        Due.noIndex("26 body", () -> v.neck(0, 2));
        Due.noIndex("26 body -1", () -> v.neck(0, -1));
    }

    private static void plays() {
        WardrobeVault v = house(2, 2);
        v.piece(1, 0, 0, 0, 100, 1);
        v.piece(1, 1, 0, 0, 100, 1);
        v.piece(1, 1, 0, 0, 100, 1);
        v.set(1, 'a', 1);
        v.wish(0, 0, 0, 0, 0, 0);
        v.wish(0, 1, 0, 0, 0, 0);
        v.wish(0, 1, 1, 1, 0, 0);
        v.dress(0);
        Due.is("27 worn", v.play(0), 2);
        Due.is("27 wear", v.told(0, 'u'), 2);
        Due.is("27 not clean", v.told(0, 's'), 0);
        Due.is("27 wear in the archive", v.told(1, 'u'), 0);
        Due.is("27 not clean in the archive", v.told(1, 's'), 0);
        Due.is("27 not given", v.told(2, 'u') * 10 + v.told(2, 's'), 1);
        Due.is("27 once more", v.play(0), 2);
        Due.is("27 wear once more", v.told(0, 'u'), 4);
        for (int n = 0; n < 60; n++) {
            v.play(0);
        }
        Due.is("27 worn out", v.told(0, 'u'), 100);
        Due.isTrue("45 sound", v.isSound());
    }

    private static void playRefused() {
        WardrobeVault v = house(1, 1);
        v.piece(1, 0, 0, 1, 100, 1);
        v.piece(1, 1, 0, 0, 100, 1);
        v.wish(0, 0, 0, 0, 0, 2);
        v.wish(0, 0, 0, 1, 0, 0);
        Due.unsupported("27 not dressed", () -> v.play(0));
        v.dress(0);
        Due.is("27 of another colour", v.play(0), 2);
        v.set(1, 'c', 105);
        Due.unsupported("27 does not fit", () -> v.play(0));
        v.set(1, 'c', 99);
        Due.unsupported("27 is too small", () -> v.play(0));
        v.set(1, 'c', 104);
        Due.is("27 fits", v.play(0), 2);
        v.quarantine(1);
        Due.unsupported("27 on no rail", () -> v.play(0));
        Due.is("27 a refused one wears nothing", v.told(0, 'u'), 4);
        v.hang(1, 1);
        v.measure(0, 3, 101, 101, 101);
        v.pass(3);
        Due.unsupported("27 today", () -> v.play(0));
        Due.is("22 fit", v.fit(0), 2);
        Due.is("27 fits again", v.play(0), 2);
        v.wish(0, 0, 0, 2, 0, 0);
        v.dress(0);
        Due.unsupported("27 a costume without a piece", () -> v.play(0));
        WardrobeVault first = house(1, 1);
        first.piece(1, 1, 0, 0, 100, 1);
        first.wish(0, 0, 0, 0, 0, 0);
        first.wish(0, 0, 0, 1, 0, 0);
        first.dress(0);
        Due.unsupported("27 the first costume without a piece", () -> first.play(0));
    }

    private static void playRefusedByChange() {
        WardrobeVault v = quickChange(21);
        Due.is("24 needed", v.needed(0, 0), 2);
        Due.is("27 enough", v.play(0), 5);
        v.dressers(1);
        Due.unsupported("27 too few", () -> v.play(0));
        v.dressers(2);
        Due.is("27 enough again", v.play(0), 5);
        WardrobeVault slow = quickChange(10);
        slow.dressers(20);
        Due.unsupported("27 too slow", () -> slow.play(0));
        WardrobeVault last = house(1, 1);
        last.piece(1, 0, 0, 0, 100, 1);
        last.wish(0, 0, 0, 0, 0, 0);
        last.dress(0);
        last.dressers(0);
        Due.is("27 behind the last scene is no change", last.play(0), 1);
    }
}
