/** Promises 1 to 7: a new object, piece, set, told, allowance, place, copy. */
final class PiecesTest {
    private static final int[] FAR_OFF = {Integer.MIN_VALUE, -1, Integer.MAX_VALUE};

    private PiecesTest() {
    }

    public static void main(String[] args) {
        newObject();
        pieceEdges();
        pieceLimits();
        setAndTold();
        setWrong();
        archiveAndWorth();
        places();
        copies();
        copyWrong();
        Due.end();
    }

    private static void newObject() {
        WardrobeVault v = new WardrobeVault();
        Due.arithmetic("1 cleanShare", v::cleanShare);
        Due.arithmetic("1 meanWear", v::meanWear);
        Due.is("1 worth", v.worth(), 0);
        Due.is("1 kept", v.kept(), 0);
        Due.is("1 orders", v.orders(), 0);
        Due.is("1 wash", v.wash(), 0);
        Due.isTrue("1 isSound", v.isSound());
        Due.noIndex("1 place", () -> v.place(0));
        Due.noIndex("1 lose", () -> v.lose(0));
        Due.badState("1 unpack", v::unpack);
        Due.is("1 first day", v.pass(1), 1);
        Due.is("1 first dressers", v.dressers(0), 2);
    }

    private static void pieceEdges() {
        WardrobeVault v = new WardrobeVault();
        Due.is("2 lowest", v.piece(0, 0, 0, 0, 1, 1), 0);
        Due.is("2 highest", v.piece(3, 6, 9, 5, 250, 99), 1);
        Due.noArgument("2 rail 4", () -> v.piece(4, 0, 0, 0, 100, 10));
        Due.noArgument("2 layer 7", () -> v.piece(0, 7, 0, 0, 100, 10));
        Due.noArgument("2 period 10", () -> v.piece(0, 0, 10, 0, 100, 10));
        Due.noArgument("2 colour 6", () -> v.piece(0, 0, 0, 6, 100, 10));
        Due.noArgument("2 size 0", () -> v.piece(0, 0, 0, 0, 0, 10));
        Due.noArgument("2 size 251", () -> v.piece(0, 0, 0, 0, 251, 10));
        Due.noArgument("2 weight 0", () -> v.piece(0, 0, 0, 0, 100, 0));
        Due.noArgument("2 weight 100", () -> v.piece(0, 0, 0, 0, 100, 100));
        for (int far : FAR_OFF) {
            Due.noArgument("2 rail " + far, () -> v.piece(far, 0, 0, 0, 100, 10));
            Due.noArgument("2 layer " + far, () -> v.piece(0, far, 0, 0, 100, 10));
            Due.noArgument("2 period " + far, () -> v.piece(0, 0, far, 0, 100, 10));
            Due.noArgument("2 colour " + far, () -> v.piece(0, 0, 0, far, 100, 10));
            Due.noArgument("2 size " + far, () -> v.piece(0, 0, 0, 0, far, 10));
            Due.noArgument("2 weight " + far, () -> v.piece(0, 0, 0, 0, 100, far));
        }
        Due.is("2 nothing was added", v.piece(0, 0, 0, 0, 100, 10), 2);
    }

    private static void pieceLimits() {
        WardrobeVault v = new WardrobeVault();
        for (int n = 0; n < 12; n++) {
            Due.is("2 number", v.piece(2, 0, 0, 0, 100, 10), n);
        }
        Due.unsupported("2 full rail", () -> v.piece(2, 0, 0, 0, 100, 10));
        Due.noArgument("2 argument ahead of full", () -> v.piece(2, 7, 0, 0, 100, 10));
        for (int n = 12; n < 40; n++) {
            Due.is("2 number", v.piece(n < 24 ? 0 : n < 36 ? 1 : 3, 0, 0, 0, 100, 10), n);
        }
        Due.badState("2 forty", () -> v.piece(3, 0, 0, 0, 100, 10));
        Due.unsupported("2 full ahead of forty", () -> v.piece(0, 0, 0, 0, 100, 10));
        Due.noArgument("2 argument ahead of forty", () -> v.piece(3, 0, 0, 0, 0, 10));
        v.hire(0, 1, 0);
        Due.badState("2 forty, one away", () -> v.piece(2, 0, 0, 0, 100, 10));
        Due.isTrue("2 sound", v.isSound());
    }

    private static void setAndTold() {
        WardrobeVault v = new WardrobeVault();
        v.piece(1, 4, 3, 2, 120, 33);
        Due.is("4 c", v.told(0, 'c'), 120);
        Due.is("4 w", v.told(0, 'w'), 120);
        Due.is("4 l", v.told(0, 'l'), 120);
        Due.is("4 f", v.told(0, 'f'), 6);
        Due.is("4 a", v.told(0, 'a'), 0);
        Due.is("4 o", v.told(0, 'o'), 2);
        Due.is("4 u", v.told(0, 'u'), 0);
        Due.is("4 s", v.told(0, 's'), 1);
        Due.is("4 m", v.told(0, 'm'), 0);
        Due.is("4 v", v.told(0, 'v'), 500);
        Due.is("5 c", v.allowance(0, 'c'), 3);
        Due.is("5 w", v.allowance(0, 'w'), 3);
        Due.is("5 l", v.allowance(0, 'l'), 3);
        Due.is("3 c", v.set(0, 'c', 1), 120);
        Due.is("3 w", v.set(0, 'w', 250), 120);
        Due.is("3 l", v.set(0, 'l', 77), 120);
        Due.is("3 f", v.set(0, 'f', 60), 6);
        Due.is("3 f again", v.set(0, 'f', 1), 60);
        Due.is("3 a", v.set(0, 'a', 1), 0);
        Due.is("3 a again", v.set(0, 'a', 1), 1);
        Due.is("4 c set", v.told(0, 'c'), 1);
        Due.is("4 w set", v.told(0, 'w'), 250);
        Due.is("4 l set", v.told(0, 'l'), 77);
        Due.is("4 f set", v.told(0, 'f'), 1);
        Due.is("4 a set", v.told(0, 'a'), 1);
        Due.is("5 stays", v.allowance(0, 'c'), 3);
        Due.is("3 c in the archive", v.set(0, 'c', 9), 1);
        Due.isTrue("45 what is set there is no alteration", v.isSound());
    }

    private static void setWrong() {
        WardrobeVault v = new WardrobeVault();
        v.piece(1, 4, 3, 2, 120, 33);
        for (int far : new int[] {Integer.MIN_VALUE, -1, 1, Integer.MAX_VALUE}) {
            Due.noIndex("3 piece " + far, () -> v.set(far, 'c', 1));
            Due.noIndex("3 piece ahead of kind " + far, () -> v.set(far, 'z', 1));
            Due.noIndex("4 piece " + far, () -> v.told(far, 'c'));
            Due.noIndex("4 piece ahead of kind " + far, () -> v.told(far, 'z'));
            Due.noIndex("5 piece " + far, () -> v.allowance(far, 'c'));
            Due.noIndex("5 piece ahead of kind " + far, () -> v.allowance(far, 'f'));
            Due.noIndex("6 piece " + far, () -> v.place(far));
        }
        for (char kind : new char[] {'c', 'w', 'l'}) {
            Due.noArgument("3 size 0", () -> v.set(0, kind, 0));
            Due.noArgument("3 size 251", () -> v.set(0, kind, 251));
        }
        Due.noArgument("3 fastening 0", () -> v.set(0, 'f', 0));
        Due.noArgument("3 fastening 61", () -> v.set(0, 'f', 61));
        Due.noArgument("3 archive 2", () -> v.set(0, 'a', 2));
        Due.noArgument("3 archive -1", () -> v.set(0, 'a', -1));
        for (char kind : new char[] {'o', 'u', 's', 'm', 'v', 'C', (char) 0, (char) 65535}) {
            Due.noArgument("3 kind", () -> v.set(0, kind, 1));
            Due.noArgument("5 kind", () -> v.allowance(0, kind));
        }
        Due.noArgument("5 kind f", () -> v.allowance(0, 'f'));
        Due.noArgument("5 kind a", () -> v.allowance(0, 'a'));
        for (char kind : new char[] {'z', 'C', 'p', (char) 0, (char) 65535}) {
            Due.noArgument("4 kind", () -> v.told(0, kind));
        }
        Due.is("3 nothing was set", v.told(0, 'c') + v.told(0, 'f') + v.told(0, 'a'), 126);
    }

    private static void archiveAndWorth() {
        WardrobeVault v = new WardrobeVault();
        v.piece(1, 0, 0, 0, 100, 1);
        v.piece(1, 6, 0, 0, 100, 1);
        v.set(1, 'a', 1);
        Due.is("4 v", v.told(0, 'v'), 100);
        Due.is("4 v in the archive", v.told(1, 'v'), 7000);
        v.moths(1);
        v.pass(3);
        Due.is("4 v worn", v.told(1, 'v'), 6790);
        v.set(1, 'a', 0);
        Due.is("4 v out again", v.told(1, 'v'), 679);
    }

    private static void places() {
        WardrobeVault v = new WardrobeVault();
        v.piece(1, 0, 0, 0, 100, 1);
        Due.is("6 r", v.place(0), 'r');
        v.quarantine(0);
        Due.is("6 q", v.place(0), 'q');
        v.hang(0, 0);
        v.hire(0, 1, 1);
        Due.is("6 h", v.place(0), 'h');
        v.takeBack(0, 0);
        v.body();
        v.show();
        v.scene(0, 1, 0);
        v.wish(0, 0, 0, 0, 0, 0);
        v.dress(0);
        v.pack(0);
        Due.is("6 t", v.place(0), 't');
        v.lose(0);
        Due.is("6 x", v.place(0), 'x');
        Due.is("4 of what is gone", v.told(0, 'c'), 100);
    }

    private static void copies() {
        WardrobeVault v = new WardrobeVault();
        v.body();
        v.piece(1, 4, 3, 2, 110, 33);
        v.set(0, 'f', 9);
        v.set(0, 'w', 90);
        v.set(0, 'l', 104);
        v.set(0, 'c', 103);
        v.set(0, 'w', 98);
        v.alter(0, 0);
        Due.is("5 let out", v.allowance(0, 'w'), 1);
        v.moths(0);
        v.pass(2);
        v.set(0, 'a', 1);
        Due.is("7 number", v.copy(0, 2), 1);
        Due.is("7 c", v.told(1, 'c'), 103);
        Due.is("7 w", v.told(1, 'w'), 100);
        Due.is("7 l", v.told(1, 'l'), 104);
        Due.is("7 f", v.told(1, 'f'), 9);
        Due.is("7 a", v.told(1, 'a'), 0);
        Due.is("7 o", v.told(1, 'o'), 0);
        Due.is("7 u", v.told(1, 'u'), 0);
        Due.is("7 s", v.told(1, 's'), 1);
        Due.is("7 m", v.told(1, 'm'), 0);
        Due.is("7 v tells the layer", v.told(1, 'v'), 500);
        Due.is("7 allowance", v.allowance(1, 'w'), 3);
        Due.is("7 place", v.place(1), 'r');
        Due.noElement("7 no alterations", () -> v.undo(1));
        Due.is("7 its rail", v.hang(1, 2), 1);
        v.show();
        v.scene(0, 7, 0);
        v.wish(0, 0, 0, 4, 3, 0);
        Due.is("7 period and layer", v.dress(0), 0);
        Due.is("7 given", v.given(0, 0), 1);
        Due.is("7 weight", v.neck(0, 0), 33 * 7);
    }

    private static void copyWrong() {
        WardrobeVault v = new WardrobeVault();
        v.piece(1, 4, 3, 2, 110, 33);
        Due.noIndex("7 piece", () -> v.copy(1, 0));
        Due.noIndex("7 piece -1 ahead of rail", () -> v.copy(-1, 9));
        Due.noArgument("7 rail 4 ahead of archive", () -> v.copy(0, 4));
        Due.noArgument("7 rail -1", () -> v.copy(0, -1));
        Due.unsupported("7 not in the archive", () -> v.copy(0, 0));
        v.set(0, 'a', 1);
        for (int n = 0; n < 12; n++) {
            v.copy(0, 0);
        }
        Due.unsupported("7 full rail", () -> v.copy(0, 0));
        for (int n = 13; n < 40; n++) {
            v.copy(0, n < 24 ? 1 : n < 36 ? 2 : 3);
        }
        Due.badState("7 forty", () -> v.copy(0, 3));
        Due.unsupported("7 full ahead of forty", () -> v.copy(0, 0));
        Due.unsupported("7 no archive ahead of forty", () -> v.copy(1, 3));
    }
}
