/** Promises 33 to 40: pack, trunk, lose, unpack, hire, takeBack, make, orders. */
final class ToursTest {
    private static final int[] FAR_OFF = {Integer.MIN_VALUE, -1, Integer.MAX_VALUE};

    private ToursTest() {
    }

    public static void main(String[] args) {
        packsAsFirstWorn();
        packsIntoTheLastTrunk();
        packWrong();
        trunkWrong();
        loses();
        unpacksOntoTheLowestRails();
        unpackWrong();
        packsAgainAndAgain();
        hires();
        hireWrong();
        takesBack();
        takesBackLate();
        takesBackOntoTheLowestRail();
        takeBackWrong();
        makes();
        madeForTheDay();
        soonestFirst();
        soonerAheadOfBegun();
        madeAtTheEndOfTheDay();
        makeWrong();
        makeLimits();
        Due.end();
    }

    /** Bodies of 100 and one show with the scenes told, 10 minutes and 600 seconds each. */
    private static WardrobeVault house(int bodies, int scenes) {
        WardrobeVault v = new WardrobeVault();
        for (int n = 0; n < bodies; n++) {
            v.body();
        }
        v.show();
        for (int n = 0; n < scenes; n++) {
            v.scene(0, 10, 600);
        }
        return v;
    }

    private static String trunks(WardrobeVault v, int count) {
        StringBuilder all = new StringBuilder();
        for (int n = 0; n < count; n++) {
            all.append(v.place(n) == 't' ? "" + v.trunk(n) : "-");
        }
        return all.toString();
    }

    /** One trunk a piece: the trunks' numbers are the order of packing. */
    private static void packsAsFirstWorn() {
        WardrobeVault v = house(2, 2);
        for (int n = 0; n < 6; n++) {
            v.piece(1, n < 3 ? 0 : 1, n % 3, 0, 100, 99);
        }
        v.wish(0, 1, 0, 0, 0, 0);
        v.wish(0, 1, 0, 1, 0, 0);
        v.wish(0, 0, 1, 1, 1, 0);
        v.wish(0, 0, 1, 0, 1, 0);
        v.wish(0, 1, 1, 0, 1, 0);
        v.wish(0, 0, 0, 1, 2, 0);
        v.dress(0);
        Due.is("33 how many", v.pack(0), 5);
        // Scene 0: body 0 wears 5, body 1 wears 1 and 4; scene 1: body 0 wears 0 and 3.
        Due.same("33 by scene, body, layer", trunks(v, 6), "31-420");
        Due.is("6 in a trunk", v.place(5), 't');
        Due.is("6 what was not given", v.place(2), 'r');
        Due.isTrue("45 sound", v.isSound());
    }

    private static void packsIntoTheLastTrunk() {
        WardrobeVault v = house(1, 1);
        int[] weights = {60, 40, 1, 99, 2};
        for (int n = 0; n < weights.length; n++) {
            v.piece(1, n, 0, 0, 100, weights[n]);
            v.wish(0, 0, 0, n, 0, 0);
        }
        v.dress(0);
        // 60 and 40 fill one, 1 and 99 the next one, 2 opens a third.
        Due.is("33 three trunks", v.pack(0), 3);
        Due.same("33 100 is the most", trunks(v, 5), "00112");
        Due.is("36 all", v.unpack(), 5);
        v.set(3, 'a', 1);
        v.wish(0, 0, 0, 5, 0, 0);
        v.piece(1, 5, 0, 0, 100, 60);
        v.dress(0);
        Due.is("33 the first trunk had place, the last one has", v.pack(0), 3);
        Due.same("33 never back", trunks(v, 6), "001122");
        Due.is("33 of another show, after that", v.show(), 1);
        Due.unsupported("33 nothing was given", () -> v.pack(1));
        WardrobeVault w = house(1, 1);
        int[] heavy = {70, 50, 30, 51};
        for (int n = 0; n < heavy.length; n++) {
            w.piece(1, n, 0, 0, 100, heavy[n]);
            w.wish(0, 0, 0, n, 0, 0);
        }
        w.dress(0);
        Due.is("33 three trunks again", w.pack(0), 3);
        Due.same("33 30 goes to the last one, not to the first", trunks(w, 4), "0112");
    }

    private static void packWrong() {
        WardrobeVault v = house(1, 1);
        v.piece(1, 0, 0, 0, 100, 10);
        v.piece(1, 1, 0, 0, 100, 10);
        for (int far : FAR_OFF) {
            Due.noIndex("33 show " + far, () -> v.pack(far));
        }
        Due.noIndex("33 show 1", () -> v.pack(1));
        Due.unsupported("33 no wishes", () -> v.pack(0));
        v.wish(0, 0, 0, 2, 0, 0);
        v.dress(0);
        Due.unsupported("33 none was found", () -> v.pack(0));
        v.wish(0, 0, 0, 0, 0, 0);
        v.wish(0, 0, 0, 1, 0, 0);
        Due.unsupported("33 forgotten", () -> v.pack(0));
        v.dress(0);
        v.quarantine(1);
        Due.unsupported("33 one is on no rail", () -> v.pack(0));
        Due.same("33 nothing was packed", "" + v.place(0) + v.place(1), "rq");
        v.hang(1, 1);
        v.show();
        v.scene(1, 1, 1);
        v.piece(1, 3, 0, 0, 100, 10);
        v.wish(1, 0, 0, 3, 0, 0);
        v.dress(1);
        Due.is("33 some wishes have none", v.pack(0), 1);
        Due.unsupported("33 on no rail ahead of trunks", () -> v.pack(0));
        Due.badState("33 there are trunks", () -> v.pack(1));
        Due.is("35 lost", v.lose(0), 2);
        Due.badState("33 a lost one stays", () -> v.pack(1));
        v.unpack();
        Due.is("33 after that", v.pack(1), 1);
    }

    private static void trunkWrong() {
        WardrobeVault v = house(1, 1);
        v.piece(1, 0, 0, 0, 100, 10);
        Due.noElement("34 on a rail", () -> v.trunk(0));
        for (int far : FAR_OFF) {
            Due.noIndex("34 piece " + far, () -> v.trunk(far));
        }
        Due.noIndex("34 piece 1", () -> v.trunk(1));
        v.wish(0, 0, 0, 0, 0, 0);
        v.dress(0);
        v.pack(0);
        Due.is("34 in one", v.trunk(0), 0);
        v.unpack();
        Due.noElement("34 unpacked", () -> v.trunk(0));
        v.pack(0);
        v.lose(0);
        Due.noElement("34 lost", () -> v.trunk(0));
    }

    private static void loses() {
        WardrobeVault v = house(1, 1);
        int[] weights = {50, 50, 60, 60};
        for (int n = 0; n < weights.length; n++) {
            v.piece(1, n, 0, 0, 100, weights[n]);
            v.wish(0, 0, 0, n, 0, 0);
        }
        Due.noIndex("35 no trunks", () -> v.lose(0));
        v.dress(0);
        v.pack(0);
        for (int far : FAR_OFF) {
            Due.noIndex("35 trunk " + far, () -> v.lose(far));
        }
        Due.noIndex("35 trunk 3", () -> v.lose(3));
        Due.is("35 two", v.lose(0), 2);
        Due.same("35 which", "" + v.place(0) + v.place(1) + v.place(2) + v.place(3), "xxtt");
        Due.is("35 it stays empty", v.lose(0), 0);
        Due.is("35 the last one", v.lose(2), 1);
        Due.is("34 the others' numbers stay", v.trunk(2), 1);
        Due.isTrue("45 sound", v.isSound());
        Due.is("36 what is left", v.unpack(), 1);
        Due.same("36 gone is gone", "" + v.place(0) + v.place(1) + v.place(2) + v.place(3), "xxrx");
        Due.noIndex("35 there are none", () -> v.lose(0));
        Due.unsupported("29 gone", () -> v.hang(0, 1));
        Due.unsupported("31 gone", () -> v.quarantine(0));
        Due.unsupported("15 gone", () -> v.dye(0, 4));
        Due.unsupported("37 gone", () -> v.hire(0, 1, 1));
        Due.unsupported("27 gone", () -> v.play(0));
        Due.is("20 gone", v.dress(0), 3000);
        Due.isTrue("45 still sound", v.isSound());
    }

    private static void unpacksOntoTheLowestRails() {
        WardrobeVault v = house(2, 1);
        v.piece(3, 0, 0, 0, 100, 90);
        v.piece(3, 1, 0, 0, 100, 90);
        v.piece(3, 2, 0, 0, 100, 5);
        v.wish(0, 0, 1, 0, 0, 0);
        v.wish(0, 0, 0, 1, 0, 0);
        v.wish(0, 0, 0, 2, 0, 0);
        for (int n = 0; n < 10; n++) {
            v.piece(0, 6, 9, 0, 100, 1);
        }
        v.dress(0);
        Due.is("33 two", v.pack(0), 2);
        Due.is("36 three", v.unpack(), 3);
        // Piece 1, then 2, fill the rail 0; piece 0 hangs on rail 1.
        Due.is("36 first", v.hang(1, 0), 12);
        Due.is("36 second", v.hang(2, 0), 12);
        Due.unsupported("36 the rail 0 is full", () -> v.hang(0, 0));
        Due.is("36 third", v.hang(0, 1), 1);
        Due.is("33 once more", v.pack(0), 2);
        Due.is("36 once more", v.unpack(), 3);
    }

    private static void unpackWrong() {
        WardrobeVault v = house(1, 1);
        Due.badState("36 no trunks", v::unpack);
        v.piece(1, 0, 0, 0, 100, 10);
        v.wish(0, 0, 0, 0, 0, 0);
        v.dress(0);
        v.pack(0);
        v.lose(0);
        Due.is("36 a lost one is unpacked", v.unpack(), 0);
        Due.badState("36 then there are none", v::unpack);
    }

    private static void packsAgainAndAgain() {
        WardrobeVault v = house(3, 1);
        for (int n = 0; n < 3; n++) {
            v.piece(1, 0, 0, 0, 100, 99);
            v.wish(0, 0, n, 0, 0, 0);
        }
        v.show();
        v.scene(1, 1, 1);
        v.measure(2, 0, 101, 101, 101);
        v.set(1, 'l', 110);
        for (int n = 0; n < 2; n++) {
            v.wish(1, 0, n, 0, 0, 0);
        }
        v.dress(1);
        v.dress(0);
        for (int n = 0; n < 20; n++) {
            Due.is("33 all again", v.pack(0), 3);
            for (int body = 0; body < 3; body++) {
                Due.is("33 the same order again", v.trunk(v.given(0, body)), body);
            }
            Due.is("36 all again", v.unpack(), 3);
            Due.is("33 the other show's", v.pack(1), 2);
            Due.isTrue("45 just those", v.isSound());
            Due.is("36 the other show's", v.unpack(), 2);
        }
    }

    private static void hires() {
        WardrobeVault v = new WardrobeVault();
        v.piece(1, 0, 0, 0, 100, 10);
        v.piece(1, 0, 0, 0, 100, 10);
        Due.is("37 due", v.hire(0, 99, 9999), 99);
        Due.is("6 hired out", v.place(0), 'h');
        Due.unsupported("37 again", () -> v.hire(0, 1, 1));
        v.pass(5);
        Due.is("37 due from today on", v.hire(1, 1, 0), 6);
    }

    private static void hireWrong() {
        WardrobeVault v = new WardrobeVault();
        Due.noIndex("37 no piece", () -> v.hire(0, 0, -1));
        v.piece(1, 0, 0, 0, 100, 10);
        for (int far : FAR_OFF) {
            Due.noIndex("37 piece " + far, () -> v.hire(far, 1, 1));
            Due.noArgument("37 days " + far, () -> v.hire(0, far, 1));
            Due.noArgument("37 deposit " + far, () -> v.hire(0, 1, far));
        }
        v.set(0, 'a', 1);
        Due.noArgument("37 days 0", () -> v.hire(0, 0, 1));
        Due.noArgument("37 days 100", () -> v.hire(0, 100, 1));
        Due.noArgument("37 deposit 10000", () -> v.hire(0, 1, 10000));
        Due.unsupported("37 archive", () -> v.hire(0, 1, 1));
        v.set(0, 'a', 0);
        v.quarantine(0);
        Due.unsupported("37 on no rail", () -> v.hire(0, 1, 1));
        Due.is("37 nothing changed", v.place(0), 'q');
    }

    private static void takesBack() {
        WardrobeVault v = new WardrobeVault();
        v.piece(1, 0, 0, 0, 100, 10);
        v.hire(0, 5, 999);
        v.pass(5);
        Due.is("38 paid back", v.takeBack(0, 15), 999 - 149);
        Due.is("42 rounded down", v.kept(), 149);
        Due.is("38 wear", v.told(0, 'u'), 15);
        Due.is("6 on a rail", v.place(0), 'r');
        v.hire(0, 5, 9999);
        Due.is("38 all is kept", v.takeBack(0, 100), 0);
        Due.is("42 more", v.kept(), 149 + 9999);
        Due.is("38 wear is 100 at most", v.told(0, 'u'), 100);
        v.hire(0, 1, 50);
        Due.is("38 no wear", v.takeBack(0, 0), 50);
        Due.is("42 nothing more", v.kept(), 149 + 9999);
        Due.isTrue("45 sound", v.isSound());
    }

    private static void takesBackLate() {
        WardrobeVault v = new WardrobeVault();
        v.piece(1, 0, 0, 0, 100, 10);
        v.hire(0, 5, 1000);
        v.pass(8);
        Due.is("38 three days late", v.takeBack(0, 2), 950);
        Due.is("38 the days are no wear of the piece", v.told(0, 'u'), 2);
        v.hire(0, 1, 1000);
        v.pass(99);
        Due.is("38 98 days and 3", v.takeBack(0, 3), 0);
        Due.is("42 100 at most together", v.kept(), 1050);
        v.hire(0, 1, 1000);
        v.pass(99);
        Due.is("38 98 days and 1", v.takeBack(0, 1), 10);
        v.hire(0, 1, 1000);
        v.pass(99);
        v.pass(99);
        Due.is("38 197 days", v.takeBack(0, 0), 0);
        Due.is("38 wear", v.told(0, 'u'), 6);
    }

    private static void takesBackOntoTheLowestRail() {
        WardrobeVault v = new WardrobeVault();
        v.piece(3, 0, 0, 0, 100, 10);
        v.piece(3, 0, 0, 0, 100, 10);
        for (int n = 0; n < 11; n++) {
            v.piece(0, 0, 0, 0, 100, 10);
        }
        v.hire(0, 1, 1);
        v.hire(1, 1, 1);
        v.takeBack(1, 0);
        v.takeBack(0, 0);
        Due.is("38 the lowest rail", v.hang(1, 0), 12);
        Due.is("38 the lowest one with place", v.hang(0, 1), 1);
        Due.unsupported("38 not the full one", () -> v.hang(0, 0));
    }

    private static void takeBackWrong() {
        WardrobeVault v = new WardrobeVault();
        Due.noIndex("38 no piece", () -> v.takeBack(0, -1));
        v.piece(1, 0, 0, 0, 100, 10);
        for (int far : FAR_OFF) {
            Due.noIndex("38 piece " + far, () -> v.takeBack(far, 1));
            Due.noArgument("38 wear " + far, () -> v.takeBack(0, far));
        }
        Due.noArgument("38 wear 101 ahead of no hire", () -> v.takeBack(0, 101));
        Due.unsupported("38 not hired out", () -> v.takeBack(0, 100));
        v.hire(0, 1, 100);
        Due.noArgument("38 wear 101", () -> v.takeBack(0, 101));
        Due.is("38 nothing changed", v.place(0), 'h');
        v.takeBack(0, 1);
        Due.unsupported("38 twice", () -> v.takeBack(0, 1));
        Due.is("42 once", v.kept(), 1);
    }

    private static void makes() {
        WardrobeVault v = house(1, 2);
        v.wish(0, 0, 0, 0, 7, 3);
        v.wish(0, 1, 0, 0, 7, 3);
        v.wish(0, 0, 0, 2, 7, 3);
        v.pad(0, 'w', 5);
        v.pad(0, 'l', 9);
        Due.is("40 none", v.orders(), 0);
        Due.is("39 eight hours", v.make(0, 1, 9999), 8);
        Due.is("39 and 24 more", v.make(0, 2, 9999), 32);
        Due.is("40 two", v.orders(), 2);
        Due.noIndex("6 not yet", () -> v.place(0));
        v.pass(1);
        Due.is("40 one", v.orders(), 1);
        Due.is("6 hangs", v.place(0), 'r');
        Due.is("39 on the lowest rail", v.hang(0, 0), 1);
        Due.is("39 chest", v.told(0, 'c'), 102);
        Due.is("39 waist", v.told(0, 'w'), 107);
        Due.is("39 length", v.told(0, 'l'), 111);
        Due.is("39 allowance", v.allowance(0, 'l'), 3);
        Due.is("39 colour", v.told(0, 'o'), 3);
        Due.is("39 fastening", v.told(0, 'f'), 6);
        Due.is("39 clean and new", v.told(0, 's') * 10 + v.told(0, 'u'), 10);
        Due.is("39 not in the archive", v.told(0, 'a') + v.told(0, 'm'), 0);
        v.pass(2);
        Due.noIndex("6 not in two days", () -> v.place(1));
        Due.is("39 hours left", v.make(0, 0, 9999), 16);
        v.pass(1);
        Due.is("6 in three", v.place(1), 'r');
        Due.is("4 its layer", v.told(1, 'v'), 300);
        v.pass(1);
        Due.is("40 none again", v.orders(), 0);
        Due.is("20 of the wish's layer and period", v.dress(0), 0);
        Due.is("26 the weight", v.neck(0, 0), 10 * (5 + 5) + 10 * 5);
        Due.isTrue("45 sound", v.isSound());
    }

    private static void madeForTheDay() {
        WardrobeVault v = house(2, 1);
        v.measure(1, 100, 200, 50, 250);
        v.pad(1, 'l', 9);
        v.wish(0, 0, 1, 0, 0, 0);
        v.make(0, 0, 50);
        v.make(0, 0, 100);
        v.make(0, 0, 9999);
        v.pass(3);
        Due.is("39 half-way", v.told(0, 'c') * 1000 + v.told(0, 'w'), 152077);
        Due.is("39 on the day", v.told(1, 'c') * 1000 + v.told(1, 'w'), 202052);
        Due.is("39 beyond the greatest size", v.told(2, 'l'), 261);
    }

    private static void soonestFirst() {
        WardrobeVault v = house(1, 1);
        for (int colour = 0; colour < 4; colour++) {
            v.wish(0, 0, 0, colour, 0, colour);
        }
        v.make(0, 3, 30);
        v.make(0, 1, 20);
        v.make(0, 0, 20);
        v.make(0, 2, 10);
        Due.is("39 sum", v.make(0, 0, 40), 8 * (4 + 2 + 1 + 3 + 1));
        StringBuilder done = new StringBuilder();
        for (int day = 1; day <= 11; day++) {
            v.pass(1);
            done.append(5 - v.orders());
        }
        Due.same("39 when", done.toString(), "00112333345");
        StringBuilder colours = new StringBuilder();
        for (int n = 0; n < 5; n++) {
            colours.append(v.told(n, 'o'));
        }
        Due.same("39 by the day wanted, then as given", colours.toString(), "21030");
    }

    private static void soonerAheadOfBegun() {
        WardrobeVault v = house(1, 1);
        v.wish(0, 0, 0, 2, 0, 5);
        v.wish(0, 0, 0, 1, 0, 4);
        v.make(0, 0, 50);
        v.pass(2);
        Due.is("39 one of them begun", v.make(0, 1, 49), 8 + 16);
        v.pass(2);
        Due.is("39 the sooner one is done", v.told(0, 'o'), 4);
        Due.noIndex("39 the begun one waits", () -> v.told(1, 'o'));
        Due.is("39 no later than today", v.make(0, 1, 5), 16 + 8);
        v.pass(1);
        v.pass(99);
        Due.is("39 behind its day, too", v.told(1, 'o'), 4);
        Due.is("39 and the begun one last", v.told(2, 'o'), 5);
        Due.is("40 none", v.orders(), 0);
    }

    private static void madeAtTheEndOfTheDay() {
        WardrobeVault v = house(1, 1);
        v.wish(0, 0, 0, 0, 0, 5);
        v.piece(0, 0, 0, 0, 100, 1);
        v.pass(9);
        v.moths(0);
        v.make(0, 0, 99);
        v.pass(1);
        Due.is("32 light of the day before", v.told(0, 'u'), 2);
        Due.is("39 no light on that day", v.told(1, 'u'), 0);
        v.pass(5);
        v.make(0, 0, 99);
        v.pass(1);
        Due.is("32 moths of rail 0", v.told(1, 'm'), 1);
        Due.is("39 no moths on that day", v.told(2, 'm'), 0);
        v.pass(1);
        Due.is("32 on the next one", v.told(2, 'm'), 1);
    }

    private static void makeWrong() {
        WardrobeVault v = house(1, 1);
        Due.noIndex("39 no wish", () -> v.make(0, 0, 0));
        v.wish(0, 0, 0, 0, 0, 0);
        for (int far : FAR_OFF) {
            Due.noIndex("39 show " + far, () -> v.make(far, 0, 1));
            Due.noIndex("39 wish " + far, () -> v.make(0, far, 1));
            Due.noArgument("39 day " + far, () -> v.make(0, 0, far));
        }
        Due.noIndex("39 show 1", () -> v.make(1, 0, 0));
        Due.noIndex("39 wish 1", () -> v.make(0, 1, 0));
        Due.noArgument("39 today", () -> v.make(0, 0, 0));
        Due.noArgument("39 day 10000", () -> v.make(0, 0, 10000));
        v.pass(7);
        Due.noArgument("39 today", () -> v.make(0, 0, 7));
        Due.is("39 tomorrow", v.make(0, 0, 8), 8);
        Due.is("40 one", v.orders(), 1);
    }

    private static void makeLimits() {
        WardrobeVault v = house(1, 1);
        v.wish(0, 0, 0, 6, 0, 0);
        for (int n = 1; n <= 10; n++) {
            Due.is("39 hours", v.make(0, 0, 50), 56L * n);
        }
        Due.badState("39 ten", () -> v.make(0, 0, 50));
        Due.noArgument("39 day ahead of ten", () -> v.make(0, 0, 0));
        Due.is("40 ten", v.orders(), 10);
        for (int n = 0; n < 30; n++) {
            v.piece(n / 12, 0, 0, 0, 100, 1);
        }
        Due.badState("2 forty with the orders", () -> v.piece(3, 0, 0, 0, 100, 1));
        v.set(0, 'a', 1);
        Due.badState("7 forty with the orders", () -> v.copy(0, 3));
        v.pass(7);
        Due.is("40 nine", v.orders(), 9);
        Due.is("6 done", v.place(30), 'r');
        Due.unsupported("39 not on the full rails", () -> v.hang(30, 0));
        Due.is("39 on the lowest one with place", v.hang(30, 2), 7);
        Due.badState("39 forty", () -> v.make(0, 0, 50));
        v.pass(63);
        Due.is("40 none", v.orders(), 0);
        Due.badState("39 forty pieces", () -> v.make(0, 0, 99));
        Due.is("6 the last one", v.place(39), 'r');
        Due.isTrue("45 sound", v.isSound());
    }
}
