/**
 * Each "Throws" of each promise: what is thrown, that the exception documented first is thrown if
 * several apply, and that a refused call changes nothing, now or later. For the latter two vaults
 * are made alike, one gets the refused call, and both are asked for all they can be asked for,
 * then led through the same further life.
 */
final class RefusedTest {
    private static final String INDEX = "IndexOutOfBoundsException";
    private static final String ARGUMENT = "IllegalArgumentException";
    private static final String UNSUPPORTED = "UnsupportedOperationException";
    private static final String STATE = "IllegalStateException";
    private static final String ELEMENT = "NoSuchElementException";
    private static final String ARITHMETIC = "ArithmeticException";
    private static final int[] NO_NUMBERS = {Integer.MIN_VALUE, -65536, -1, 65536, Integer.MAX_VALUE};
    private static final char[] NO_MEASURES = {'a', 'f', 'o', 'u', 's', 'm', 'v', 'C', 0, 'c' + 256, 65535};
    private static final char[] NO_KINDS = {'b', 'p', 'C', 'z', 0, 'c' + 256, 'a' + 256, 65535};
    private static final House BUSY = new House("busy", RefusedTest::busy);
    private static final House FULL = new House("full", RefusedTest::full);
    private static final House ORDERED = new House("with orders", RefusedTest::ordered);
    private static final House NEW = new House("new", WardrobeVault::new);

    private RefusedTest() {
    }

    private interface Maker {
        WardrobeVault made();
    }

    private interface Call {
        void on(WardrobeVault v);
    }

    /** A way to make a vault, always the same one, and what is told of it if nothing is refused. */
    private static final class House {
        final String name;
        final Maker maker;
        String now;
        String later;

        House(String name, Maker maker) {
            this.name = name;
            this.maker = maker;
        }

        void look() {
            if (now == null) {
                WardrobeVault left = maker.made();
                now = Look.at(left);
                later = further(left);
            }
        }
    }

    public static void main(String[] args) {
        housesAreWhatTheySay();
        piece();
        setAndTold();
        copy();
        measures();
        fitting();
        undoAndDye();
        scenes();
        wishes();
        dressing();
        changes();
        play();
        care();
        pack();
        trunks();
        hire();
        make();
        sums();
        Due.end();
    }

    private static void refused(String what, String exception, House house, Call call) {
        house.look();
        WardrobeVault tried = house.maker.made();
        String where = what + ", " + house.name;
        Due.same(where, Due.thrownBy(() -> call.on(tried)), exception);
        Due.same(where + ": changes nothing", Look.at(tried), house.now);
        Due.same(where + ": changes nothing later", further(tried), house.later);
    }

    /** Leads a vault through most of its calls and tells all answers. */
    private static String further(WardrobeVault v) {
        StringBuilder all = new StringBuilder();
        tell(all, () -> v.dressers(v.dressers(0)));
        for (int show = 0; show < 3; show++) {
            int number = show;
            tell(all, () -> v.play(number));
            tell(all, () -> v.fit(number));
            tell(all, () -> v.dress(number));
            tell(all, () -> v.play(number));
        }
        tell(all, v::wash);
        for (int piece = 0; piece < 40; piece++) {
            int number = piece;
            tell(all, () -> v.undo(number));
            tell(all, () -> v.takeBack(number, 1));
        }
        for (int day = 0; day < 4; day++) {
            tell(all, () -> v.pass(1));
            all.append(Look.at(v));
        }
        tell(all, v::unpack);
        tell(all, () -> v.pack(0));
        tell(all, () -> v.pack(1));
        tell(all, () -> v.pass(12));
        for (int piece = 0; piece < 40; piece++) {
            int number = piece;
            tell(all, () -> v.hang(number, 3));
        }
        for (int rail = 0; rail < 4; rail++) {
            int number = rail;
            tell(all, () -> v.piece(number, 0, 0, 0, 100, 1));
        }
        tell(all, v::body);
        tell(all, v::show);
        tell(all, () -> v.scene(0, 1, 1));
        tell(all, () -> v.measure(0, 777, 1, 1, 1));
        tell(all, () -> v.make(0, 0, 9999));
        tell(all, () -> v.pass(80));
        return all.append(Look.at(v)).toString();
    }

    private static void tell(StringBuilder all, Look.Question question) {
        try {
            all.append(question.asked()).append(' ');
        } catch (RuntimeException e) {
            all.append(e.getClass().getSimpleName()).append(' ');
        }
    }

    /**
     * Day 3. Show 0 is given the pieces 0 and 1; show 1 was given 2, 3 and 4, of which 2 and 3 are
     * in the trunks 0 and 1, and 4 is gone with the trunk 2; show 2 was played with 11, which is
     * not clean. 5 is in quarantine with moths, 6 without; 7 is hired out; 8 is in the archive; 9
     * was altered twice; 10 is too small; 12 to 23 fill rail 2; 24 is hired out and was set into
     * the archive then. Two orders are open. Bodies 0 to 2.
     */
    private static WardrobeVault busy() {
        WardrobeVault v = new WardrobeVault();
        for (int n = 0; n < 3; n++) {
            v.body();
        }
        v.measure(1, 8, 103, 98, 101);
        v.pad(2, 'w', 2);
        int[][] pieces = {{1, 0, 0, 0, 60}, {1, 1, 0, 0, 60}, {1, 0, 1, 0, 60}, {1, 1, 1, 0, 60},
            {1, 2, 1, 0, 60}, {1, 3, 2, 0, 7}, {1, 3, 3, 0, 7}, {1, 3, 4, 0, 7}, {3, 3, 5, 0, 7},
            {3, 3, 6, 0, 7}, {3, 3, 7, 0, 7}, {3, 4, 8, 5, 7}};
        for (int[] each : pieces) {
            v.piece(each[0], each[1], each[2], each[3], 100, each[4]);
        }
        for (int n = 12; n < 24; n++) {
            v.piece(2, 5, 9, 1, 102, 9);
        }
        v.piece(1, 6, 9, 2, 101, 3);
        threeShows(v);
        v.set(9, 'c', 99);
        v.alter(9, 0);
        v.measure(0, 0, 101, 100, 100);
        v.alter(9, 0);
        v.measure(0, 0, 100, 100, 100);
        v.set(10, 'c', 90);
        v.set(8, 'a', 1);
        v.moths(5);
        v.quarantine(5);
        v.quarantine(6);
        v.hire(7, 2, 100);
        v.hire(24, 9, 500);
        v.set(24, 'a', 1);
        v.make(1, 4, 100);
        v.make(2, 0, 20);
        v.pass(3);
        return v;
    }

    private static void threeShows(WardrobeVault v) {
        for (int show = 0; show < 3; show++) {
            v.show();
            v.scene(show, 10, 5);
            v.scene(show, 20, 0);
        }
        v.wish(0, 0, 0, 0, 0, 1);
        v.wish(0, 1, 0, 0, 0, 1);
        v.wish(0, 1, 0, 1, 0, 0);
        for (int layer = 0; layer < 3; layer++) {
            v.wish(1, 0, 1, layer, 1, 0);
            v.wish(1, 1, 1, layer, 1, 0);
        }
        v.wish(2, 0, 0, 4, 8, 5);
        v.wish(2, 1, 0, 4, 8, 5);
        for (int show = 0; show < 3; show++) {
            v.dress(show);
        }
        v.play(2);
        v.pack(1);
        v.lose(2);
    }

    /** 40 pieces, 10 bodies, 3 shows, 6 scenes, 30 wishes, 8 days; rails 0 to 2 are full. */
    private static WardrobeVault full() {
        WardrobeVault v = new WardrobeVault();
        for (int n = 0; n < 40; n++) {
            v.piece(n / 12, n % 7, 0, 0, 100, 1);
        }
        v.set(0, 'a', 1);
        for (int n = 0; n < 10; n++) {
            v.body();
        }
        for (int day = 1; day < 8; day++) {
            v.measure(0, day, 100, 100, 100);
        }
        for (int show = 0; show < 3; show++) {
            v.show();
        }
        for (int scene = 0; scene < 6; scene++) {
            v.scene(0, 10, 0);
        }
        for (int n = 0; n < 30; n++) {
            v.wish(0, 0, n / 7, n % 7, 0, 0);
        }
        v.dress(0);
        return v;
    }

    /** 30 pieces, the first one in the archive, and 10 orders; rails 0 and 1 are full. */
    private static WardrobeVault ordered() {
        WardrobeVault v = new WardrobeVault();
        for (int n = 0; n < 30; n++) {
            v.piece(n / 12, 0, 0, 0, 100, 1);
        }
        v.set(0, 'a', 1);
        v.body();
        v.show();
        v.scene(0, 1, 1);
        v.wish(0, 0, 0, 0, 0, 0);
        for (int n = 0; n < 10; n++) {
            v.make(0, 0, 100);
        }
        return v;
    }

    private static void housesAreWhatTheySay() {
        WardrobeVault v = busy();
        StringBuilder places = new StringBuilder();
        for (int n = 0; n < 25; n++) {
            places.append(v.place(n));
        }
        Due.same("places", places.toString(), "rrttxqqh" + "rrrr" + "rrrrrrrrrrrr" + "h");
        Due.is("given to show 0", v.given(0, 0) * 10 + v.given(0, 2), 1);
        Due.is("not clean", v.told(11, 's'), 0);
        Due.is("orders", v.orders(), 2);
        Due.isTrue("sound", v.isSound());
        WardrobeVault w = full();
        Due.is("given to the last wish", w.given(0, 29), 29);
        Due.is("ten orders", ordered().orders(), 10);
    }

    private static void piece() {
        for (int no : NO_NUMBERS) {
            refused("2 rail " + no, ARGUMENT, BUSY, v -> v.piece(no, 0, 0, 0, 100, 1));
            refused("2 layer " + no, ARGUMENT, BUSY, v -> v.piece(0, no, 0, 0, 100, 1));
            refused("2 period " + no, ARGUMENT, BUSY, v -> v.piece(0, 0, no, 0, 100, 1));
            refused("2 colour " + no, ARGUMENT, BUSY, v -> v.piece(0, 0, 0, no, 100, 1));
            refused("2 size " + no, ARGUMENT, BUSY, v -> v.piece(0, 0, 0, 0, no, 1));
            refused("2 weight " + no, ARGUMENT, BUSY, v -> v.piece(0, 0, 0, 0, 100, no));
        }
        refused("2 rail 4", ARGUMENT, BUSY, v -> v.piece(4, 0, 0, 0, 100, 1));
        refused("2 layer 7", ARGUMENT, BUSY, v -> v.piece(0, 7, 0, 0, 100, 1));
        refused("2 period 10", ARGUMENT, BUSY, v -> v.piece(0, 0, 10, 0, 100, 1));
        refused("2 colour 6", ARGUMENT, BUSY, v -> v.piece(0, 0, 0, 6, 100, 1));
        refused("2 size 0", ARGUMENT, BUSY, v -> v.piece(0, 0, 0, 0, 0, 1));
        refused("2 size 251", ARGUMENT, BUSY, v -> v.piece(0, 0, 0, 0, 251, 1));
        refused("2 weight 0", ARGUMENT, BUSY, v -> v.piece(0, 0, 0, 0, 100, 0));
        refused("2 weight 100", ARGUMENT, BUSY, v -> v.piece(0, 0, 0, 0, 100, 100));
        refused("2 the rail is full", UNSUPPORTED, BUSY, v -> v.piece(2, 0, 0, 0, 100, 1));
        refused("2 there are 40", STATE, FULL, v -> v.piece(3, 0, 0, 0, 100, 1));
        refused("2 there are 40 with orders", STATE, ORDERED, v -> v.piece(3, 0, 0, 0, 100, 1));
        refused("2 number and full rail", ARGUMENT, BUSY, v -> v.piece(2, 0, 0, 0, 251, 1));
        refused("2 number and 40", ARGUMENT, FULL, v -> v.piece(3, 0, 10, 0, 100, 1));
        refused("2 no rail and 40", ARGUMENT, FULL, v -> v.piece(4, 0, 0, 0, 100, 1));
        refused("2 full rail and 40", UNSUPPORTED, FULL, v -> v.piece(2, 0, 0, 0, 100, 1));
        refused("2 full rail and orders", UNSUPPORTED, ORDERED, v -> v.piece(1, 0, 0, 0, 100, 1));
        refused("2 number, full rail and 40", ARGUMENT, FULL, v -> v.piece(2, 7, 0, 0, 100, 1));
    }

    private static void setAndTold() {
        for (int no : NO_NUMBERS) {
            refused("3 piece " + no, INDEX, BUSY, v -> v.set(no, 'c', 1));
            refused("4 piece " + no, INDEX, BUSY, v -> v.told(no, 'c'));
            refused("5 piece " + no, INDEX, BUSY, v -> v.allowance(no, 'c'));
            refused("6 piece " + no, INDEX, BUSY, v -> v.place(no));
            for (char kind : "cwlfa".toCharArray()) {
                refused("3 " + kind + " " + no, ARGUMENT, BUSY, v -> v.set(9, kind, no));
            }
        }
        refused("3 piece 25", INDEX, BUSY, v -> v.set(25, 'c', 1));
        refused("4 piece 25", INDEX, BUSY, v -> v.told(25, 'c'));
        refused("5 piece 25", INDEX, BUSY, v -> v.allowance(25, 'c'));
        refused("6 piece 25", INDEX, BUSY, v -> v.place(25));
        refused("3 piece 40", INDEX, FULL, v -> v.set(40, 'c', 1));
        refused("4 piece 40", INDEX, FULL, v -> v.told(40, 'c'));
        for (char kind : "cwl".toCharArray()) {
            refused("3 size 0 of " + kind, ARGUMENT, BUSY, v -> v.set(9, kind, 0));
            refused("3 size 251 of " + kind, ARGUMENT, BUSY, v -> v.set(9, kind, 251));
        }
        refused("3 fastening 0", ARGUMENT, BUSY, v -> v.set(9, 'f', 0));
        refused("3 fastening 61", ARGUMENT, BUSY, v -> v.set(9, 'f', 61));
        refused("3 archive 2", ARGUMENT, BUSY, v -> v.set(9, 'a', 2));
        for (char kind : new char[] {'o', 'u', 's', 'm', 'v', 'F', 'A', 'f' + 256}) {
            refused("3 kind " + (int) kind, ARGUMENT, BUSY, v -> v.set(9, kind, 1));
        }
        for (char kind : NO_KINDS) {
            refused("3 kind " + (int) kind, ARGUMENT, BUSY, v -> v.set(9, kind, 1));
            refused("4 kind " + (int) kind, ARGUMENT, BUSY, v -> v.told(9, kind));
        }
        for (char kind : NO_MEASURES) {
            refused("5 kind " + (int) kind, ARGUMENT, BUSY, v -> v.allowance(9, kind));
        }
        refused("3 no piece and no kind", INDEX, BUSY, v -> v.set(25, 'z', 1));
        refused("3 no piece and number", INDEX, BUSY, v -> v.set(-1, 'c', 251));
        refused("4 no piece and no kind", INDEX, BUSY, v -> v.told(25, 'z'));
        refused("5 no piece and no kind", INDEX, BUSY, v -> v.allowance(25, 'z'));
    }

    private static void copy() {
        for (int no : NO_NUMBERS) {
            refused("7 piece " + no, INDEX, BUSY, v -> v.copy(no, 0));
            refused("7 rail " + no, ARGUMENT, BUSY, v -> v.copy(8, no));
        }
        refused("7 piece 25", INDEX, BUSY, v -> v.copy(25, 0));
        refused("7 rail 4", ARGUMENT, BUSY, v -> v.copy(8, 4));
        refused("7 not in the archive", UNSUPPORTED, BUSY, v -> v.copy(9, 0));
        refused("7 the rail is full", UNSUPPORTED, BUSY, v -> v.copy(8, 2));
        refused("7 there are 40", STATE, FULL, v -> v.copy(0, 3));
        refused("7 there are 40 with orders", STATE, ORDERED, v -> v.copy(0, 3));
        refused("7 no piece and no rail", INDEX, BUSY, v -> v.copy(25, 4));
        refused("7 no piece and full rail", INDEX, BUSY, v -> v.copy(25, 2));
        refused("7 no piece and 40", INDEX, FULL, v -> v.copy(40, 3));
        refused("7 no rail and no archive", ARGUMENT, BUSY, v -> v.copy(9, 4));
        refused("7 no rail and 40", ARGUMENT, FULL, v -> v.copy(0, -1));
        refused("7 no archive and 40", UNSUPPORTED, FULL, v -> v.copy(1, 3));
        refused("7 full rail and 40", UNSUPPORTED, FULL, v -> v.copy(0, 1));
        refused("7 full rail and orders", UNSUPPORTED, ORDERED, v -> v.copy(0, 0));
    }

    private static void measures() {
        refused("8 there are 10", STATE, FULL, WardrobeVault::body);
        for (int no : NO_NUMBERS) {
            refused("9 body " + no, INDEX, BUSY, v -> v.measure(no, 1, 9, 9, 9));
            refused("9 day " + no, ARGUMENT, BUSY, v -> v.measure(0, no, 9, 9, 9));
            refused("9 chest " + no, ARGUMENT, BUSY, v -> v.measure(0, 1, no, 9, 9));
            refused("9 waist " + no, ARGUMENT, BUSY, v -> v.measure(0, 1, 9, no, 9));
            refused("9 length " + no, ARGUMENT, BUSY, v -> v.measure(0, 1, 9, 9, no));
            refused("10 body " + no, INDEX, BUSY, v -> v.pad(no, 'c', 1));
            refused("10 padding " + no, ARGUMENT, BUSY, v -> v.pad(0, 'c', no));
            refused("11 body " + no, INDEX, BUSY, v -> v.measured(no, 1, 'c'));
            refused("11 day " + no, ARGUMENT, BUSY, v -> v.measured(0, no, 'c'));
        }
        refused("9 body 3", INDEX, BUSY, v -> v.measure(3, 1, 9, 9, 9));
        refused("9 body 10", INDEX, FULL, v -> v.measure(10, 1, 9, 9, 9));
        refused("9 day 10000", ARGUMENT, BUSY, v -> v.measure(0, 10000, 9, 9, 9));
        refused("9 chest 0", ARGUMENT, BUSY, v -> v.measure(0, 1, 0, 9, 9));
        refused("9 chest 251", ARGUMENT, BUSY, v -> v.measure(0, 1, 251, 9, 9));
        refused("9 waist 0", ARGUMENT, BUSY, v -> v.measure(0, 1, 9, 0, 9));
        refused("9 waist 251", ARGUMENT, BUSY, v -> v.measure(0, 1, 9, 251, 9));
        refused("9 length 0", ARGUMENT, BUSY, v -> v.measure(0, 1, 9, 9, 0));
        refused("9 length 251", ARGUMENT, BUSY, v -> v.measure(0, 1, 9, 9, 251));
        refused("9 8 other days", STATE, FULL, v -> v.measure(0, 8, 9, 9, 9));
        refused("9 no body and number", INDEX, BUSY, v -> v.measure(3, 10000, 0, 0, 0));
        refused("9 number and 8 days", ARGUMENT, FULL, v -> v.measure(0, 8, 9, 9, 251));
        refused("9 day and 8 days", ARGUMENT, FULL, v -> v.measure(0, 10000, 9, 9, 9));
        refused("10 body 3", INDEX, BUSY, v -> v.pad(3, 'c', 1));
        refused("10 padding 10", ARGUMENT, BUSY, v -> v.pad(0, 'c', 10));
        refused("10 no body and no kind", INDEX, BUSY, v -> v.pad(3, 'f', 1));
        refused("10 no body and padding", INDEX, BUSY, v -> v.pad(-1, 'c', 10));
        refused("11 body 3", INDEX, BUSY, v -> v.measured(3, 1, 'c'));
        refused("11 day 10000", ARGUMENT, BUSY, v -> v.measured(0, 10000, 'c'));
        refused("11 no body and day", INDEX, BUSY, v -> v.measured(3, 10000, 'c'));
        refused("11 no body and no kind", INDEX, BUSY, v -> v.measured(3, 1, 'f'));
        for (char kind : NO_MEASURES) {
            refused("10 kind " + (int) kind, ARGUMENT, BUSY, v -> v.pad(0, kind, 1));
            refused("11 kind " + (int) kind, ARGUMENT, BUSY, v -> v.measured(0, 1, kind));
        }
    }

    private static void fitting() {
        for (int no : NO_NUMBERS) {
            refused("12 piece " + no, INDEX, BUSY, v -> v.fitting(no, 0));
            refused("12 body " + no, INDEX, BUSY, v -> v.fitting(9, no));
            refused("13 piece " + no, INDEX, BUSY, v -> v.alter(no, 0));
            refused("13 body " + no, INDEX, BUSY, v -> v.alter(9, no));
        }
        refused("12 piece 25", INDEX, BUSY, v -> v.fitting(25, 0));
        refused("12 body 3", INDEX, BUSY, v -> v.fitting(9, 3));
        refused("12 too small", UNSUPPORTED, BUSY, v -> v.fitting(10, 0));
        refused("12 in the archive", UNSUPPORTED, BUSY, v -> v.fitting(8, 1));
        refused("12 too small, no body", INDEX, BUSY, v -> v.fitting(10, 3));
        refused("13 piece 25", INDEX, BUSY, v -> v.alter(25, 1));
        refused("13 body 3", INDEX, BUSY, v -> v.alter(9, 3));
        refused("13 too small", UNSUPPORTED, BUSY, v -> v.alter(10, 0));
        refused("13 in the archive", UNSUPPORTED, BUSY, v -> v.alter(8, 1));
        refused("13 it fits", UNSUPPORTED, BUSY, v -> v.alter(0, 0));
        refused("13 in a trunk", UNSUPPORTED, BUSY, v -> v.alter(2, 1));
        refused("13 gone", UNSUPPORTED, BUSY, v -> v.alter(4, 1));
        refused("13 in quarantine", UNSUPPORTED, BUSY, v -> v.alter(6, 1));
        refused("13 hired out", UNSUPPORTED, BUSY, v -> v.alter(7, 1));
        refused("13 hired out, no body", INDEX, BUSY, v -> v.alter(7, 3));
    }

    private static void undoAndDye() {
        for (int no : NO_NUMBERS) {
            refused("14 piece " + no, INDEX, BUSY, v -> v.undo(no));
            refused("15 piece " + no, INDEX, BUSY, v -> v.dye(no, 5));
            refused("15 colour " + no, ARGUMENT, BUSY, v -> v.dye(9, no));
        }
        refused("14 piece 25", INDEX, BUSY, v -> v.undo(25));
        refused("14 none on a rail", ELEMENT, BUSY, v -> v.undo(0));
        for (int piece : new int[] {2, 4, 5, 6, 7, 8, 24}) {
            refused("14 on no rail, or the archive, and none: " + piece, UNSUPPORTED, BUSY, v -> v.undo(piece));
            refused("15 on no rail, or the archive: " + piece, UNSUPPORTED, BUSY, v -> v.dye(piece, 5));
            refused("15 and no colour: " + piece, ARGUMENT, BUSY, v -> v.dye(piece, 6));
        }
        refused("15 piece 25", INDEX, BUSY, v -> v.dye(25, 5));
        refused("15 colour 6", ARGUMENT, BUSY, v -> v.dye(9, 6));
        refused("15 the same colour", UNSUPPORTED, BUSY, v -> v.dye(12, 1));
        refused("15 a lighter colour", UNSUPPORTED, BUSY, v -> v.dye(12, 0));
        refused("15 no piece and no colour", INDEX, BUSY, v -> v.dye(25, 6));
    }

    private static void scenes() {
        refused("16 there are 3", STATE, FULL, WardrobeVault::show);
        for (int no : NO_NUMBERS) {
            refused("17 show " + no, INDEX, BUSY, v -> v.scene(no, 1, 1));
            refused("17 minutes " + no, ARGUMENT, BUSY, v -> v.scene(0, no, 1));
            refused("17 seconds " + no, ARGUMENT, BUSY, v -> v.scene(0, 1, no));
        }
        refused("17 show 0", INDEX, NEW, v -> v.scene(0, 1, 1));
        refused("17 show 3", INDEX, BUSY, v -> v.scene(3, 1, 1));
        refused("17 minutes 0", ARGUMENT, BUSY, v -> v.scene(0, 0, 1));
        refused("17 minutes 100", ARGUMENT, BUSY, v -> v.scene(0, 100, 1));
        refused("17 seconds 601", ARGUMENT, BUSY, v -> v.scene(0, 1, 601));
        refused("17 it has 6", STATE, FULL, v -> v.scene(0, 1, 1));
        refused("17 no show and number", INDEX, BUSY, v -> v.scene(3, 0, 601));
        refused("17 minutes and 6", ARGUMENT, FULL, v -> v.scene(0, 100, 1));
        refused("17 seconds and 6", ARGUMENT, FULL, v -> v.scene(0, 1, 601));
    }

    private static void wishes() {
        for (int no : NO_NUMBERS) {
            refused("18 show " + no, INDEX, BUSY, v -> v.wish(no, 0, 2, 0, 0, 0));
            refused("18 scene " + no, INDEX, BUSY, v -> v.wish(0, no, 2, 0, 0, 0));
            refused("18 body " + no, INDEX, BUSY, v -> v.wish(0, 0, no, 0, 0, 0));
            refused("18 layer " + no, ARGUMENT, BUSY, v -> v.wish(0, 0, 2, no, 0, 0));
            refused("18 period " + no, ARGUMENT, BUSY, v -> v.wish(0, 0, 2, 0, no, 0));
            refused("18 colour " + no, ARGUMENT, BUSY, v -> v.wish(0, 0, 2, 0, 0, no));
        }
        refused("18 show 3", INDEX, BUSY, v -> v.wish(3, 0, 2, 0, 0, 0));
        refused("18 scene 2", INDEX, BUSY, v -> v.wish(0, 2, 2, 0, 0, 0));
        refused("18 scene 6", INDEX, FULL, v -> v.wish(0, 6, 2, 0, 0, 0));
        refused("18 body 3", INDEX, BUSY, v -> v.wish(0, 0, 3, 0, 0, 0));
        refused("18 body 10", INDEX, FULL, v -> v.wish(0, 1, 10, 0, 0, 0));
        refused("18 layer 7", ARGUMENT, BUSY, v -> v.wish(0, 0, 2, 7, 0, 0));
        refused("18 period 10", ARGUMENT, BUSY, v -> v.wish(0, 0, 2, 0, 10, 0));
        refused("18 colour 6", ARGUMENT, BUSY, v -> v.wish(0, 0, 2, 0, 0, 6));
        refused("18 there is one", UNSUPPORTED, BUSY, v -> v.wish(0, 1, 0, 1, 5, 5));
        refused("18 it has 30", STATE, FULL, v -> v.wish(0, 1, 0, 0, 0, 0));
        refused("18 no scene and no layer", INDEX, BUSY, v -> v.wish(0, 2, 2, 7, 0, 0));
        refused("18 no body and no colour", INDEX, BUSY, v -> v.wish(0, 0, 3, 0, 0, 6));
        refused("18 no scene and 30", INDEX, FULL, v -> v.wish(0, 6, 0, 0, 0, 0));
        refused("18 no period and there is one", ARGUMENT, BUSY, v -> v.wish(0, 1, 0, 1, 10, 0));
        refused("18 no layer and 30", ARGUMENT, FULL, v -> v.wish(0, 1, 0, 7, 0, 0));
        refused("18 there is one and 30", UNSUPPORTED, FULL, v -> v.wish(0, 0, 0, 0, 0, 0));
    }

    private static void dressing() {
        for (int no : NO_NUMBERS) {
            refused("19 show " + no, INDEX, BUSY, v -> v.costumes(no));
            refused("20 show " + no, INDEX, BUSY, v -> v.dress(no));
            refused("21 show " + no, INDEX, BUSY, v -> v.given(no, 0));
            refused("21 wish " + no, INDEX, BUSY, v -> v.given(0, no));
            refused("22 show " + no, INDEX, BUSY, v -> v.fit(no));
        }
        refused("19 show 3", INDEX, BUSY, v -> v.costumes(3));
        refused("19 show 0", INDEX, NEW, v -> v.costumes(0));
        refused("20 show 3", INDEX, BUSY, v -> v.dress(3));
        refused("20 show 0", INDEX, NEW, v -> v.dress(0));
        refused("21 show 3", INDEX, BUSY, v -> v.given(3, 0));
        refused("21 wish 3", INDEX, BUSY, v -> v.given(0, 3));
        refused("21 wish 30", INDEX, FULL, v -> v.given(0, 30));
        refused("21 it has none", ELEMENT, ORDERED, v -> v.given(0, 0));
        refused("22 show 3", INDEX, BUSY, v -> v.fit(3));
        refused("22 show 0", INDEX, NEW, v -> v.fit(0));
    }

    private static void changes() {
        for (int no : NO_NUMBERS) {
            refused("23 show " + no, INDEX, BUSY, v -> v.change(no, 0, 0, 0));
            refused("23 scene " + no, INDEX, BUSY, v -> v.change(0, no, 0, 0));
            refused("23 body " + no, INDEX, BUSY, v -> v.change(0, 0, no, 0));
            refused("23 dressers " + no, ARGUMENT, BUSY, v -> v.change(0, 0, 0, no));
            refused("24 show " + no, INDEX, BUSY, v -> v.needed(no, 0));
            refused("24 scene " + no, INDEX, BUSY, v -> v.needed(0, no));
            refused("25 dressers " + no, ARGUMENT, BUSY, v -> v.dressers(no));
            refused("26 show " + no, INDEX, BUSY, v -> v.neck(no, 0));
            refused("26 body " + no, INDEX, BUSY, v -> v.neck(0, no));
        }
        refused("23 show 3", INDEX, BUSY, v -> v.change(3, 0, 0, 0));
        refused("23 the last scene", INDEX, BUSY, v -> v.change(0, 1, 0, 0));
        refused("23 the last of six scenes", INDEX, FULL, v -> v.change(0, 5, 0, 0));
        refused("23 no scenes", INDEX, FULL, v -> v.change(1, 0, 0, 0));
        refused("23 the only scene", INDEX, ORDERED, v -> v.change(0, 0, 0, 0));
        refused("23 scene 2", INDEX, BUSY, v -> v.change(0, 2, 0, 0));
        refused("23 body 3", INDEX, BUSY, v -> v.change(0, 0, 3, 0));
        refused("23 dressers 4", ARGUMENT, BUSY, v -> v.change(0, 0, 0, 4));
        refused("23 last scene and dressers", INDEX, BUSY, v -> v.change(0, 1, 0, 4));
        refused("23 no body and dressers", INDEX, BUSY, v -> v.change(0, 0, 3, -1));
        refused("24 show 3", INDEX, BUSY, v -> v.needed(3, 0));
        refused("24 the last scene, with no time behind", INDEX, FULL, v -> v.needed(0, 5));
        refused("24 no scenes", INDEX, FULL, v -> v.needed(1, 0));
        refused("24 the only scene", INDEX, ORDERED, v -> v.needed(0, 0));
        refused("24 not in time", ELEMENT, FULL, v -> v.needed(0, 0));
        refused("25 dressers 21", ARGUMENT, BUSY, v -> v.dressers(21));
        refused("26 show 3", INDEX, BUSY, v -> v.neck(3, 0));
        refused("26 body 3", INDEX, BUSY, v -> v.neck(0, 3));
    }

    private static void play() {
        for (int no : NO_NUMBERS) {
            refused("27 show " + no, INDEX, BUSY, v -> v.play(no));
        }
        refused("27 show 3", INDEX, BUSY, v -> v.play(3));
        refused("27 on no rail", UNSUPPORTED, BUSY, v -> v.play(1));
        refused("27 no piece", UNSUPPORTED, ORDERED, v -> v.play(0));
        refused("27 too slow a change", UNSUPPORTED, FULL, v -> v.play(0));
    }

    private static void care() {
        for (int no : NO_NUMBERS) {
            refused("29 piece " + no, INDEX, BUSY, v -> v.hang(no, 0));
            refused("29 rail " + no, ARGUMENT, BUSY, v -> v.hang(9, no));
            refused("30 piece " + no, INDEX, BUSY, v -> v.moths(no));
            refused("31 piece " + no, INDEX, BUSY, v -> v.quarantine(no));
            refused("32 days " + no, ARGUMENT, BUSY, v -> v.pass(no));
        }
        refused("29 piece 25", INDEX, BUSY, v -> v.hang(25, 0));
        refused("29 rail 4", ARGUMENT, BUSY, v -> v.hang(9, 4));
        for (int piece : new int[] {2, 4, 5, 7, 24}) {
            refused("29 elsewhere, or with moths: " + piece, UNSUPPORTED, BUSY, v -> v.hang(piece, 0));
            refused("29 and no rail: " + piece, ARGUMENT, BUSY, v -> v.hang(piece, 4));
            refused("31 on no rail: " + piece, UNSUPPORTED, BUSY, v -> v.quarantine(piece));
        }
        refused("29 the rail is full", UNSUPPORTED, BUSY, v -> v.hang(9, 2));
        refused("29 the rail is full, from quarantine", UNSUPPORTED, BUSY, v -> v.hang(6, 2));
        refused("29 no piece and no rail", INDEX, BUSY, v -> v.hang(25, 4));
        refused("29 no piece and full rail", INDEX, BUSY, v -> v.hang(-1, 2));
        refused("30 piece 25", INDEX, BUSY, v -> v.moths(25));
        refused("31 piece 25", INDEX, BUSY, v -> v.quarantine(25));
        refused("31 in quarantine", UNSUPPORTED, BUSY, v -> v.quarantine(6));
        refused("32 days 0", ARGUMENT, BUSY, v -> v.pass(0));
        refused("32 days 100", ARGUMENT, BUSY, v -> v.pass(100));
    }

    private static void pack() {
        for (int no : NO_NUMBERS) {
            refused("33 show " + no, INDEX, BUSY, v -> v.pack(no));
        }
        refused("33 no show, and trunks", INDEX, BUSY, v -> v.pack(3));
        refused("33 no show", INDEX, NEW, v -> v.pack(0));
        refused("33 nothing was given", UNSUPPORTED, FULL, v -> v.pack(1));
        refused("33 there are trunks", STATE, BUSY, v -> v.pack(0));
        refused("33 on no rail, and trunks", UNSUPPORTED, BUSY, v -> v.pack(1));
        House forgotten = new House("forgotten, with trunks", () -> {
            WardrobeVault v = busy();
            v.wish(0, 0, 2, 6, 9, 5);
            return v;
        });
        refused("33 nothing was given, and trunks", UNSUPPORTED, forgotten, v -> v.pack(0));
        House last = new House("the last piece on no rail", () -> {
            WardrobeVault v = busy();
            v.unpack();
            v.quarantine(1);
            return v;
        });
        refused("33 the last piece is on no rail", UNSUPPORTED, last, v -> v.pack(0));
    }

    private static void trunks() {
        for (int no : NO_NUMBERS) {
            refused("34 piece " + no, INDEX, BUSY, v -> v.trunk(no));
            refused("35 trunk " + no, INDEX, BUSY, v -> v.lose(no));
        }
        refused("34 piece 25", INDEX, BUSY, v -> v.trunk(25));
        for (int piece : new int[] {0, 4, 5, 7}) {
            refused("34 in none: " + piece, ELEMENT, BUSY, v -> v.trunk(piece));
        }
        refused("35 trunk 3", INDEX, BUSY, v -> v.lose(3));
        refused("35 there are none", INDEX, FULL, v -> v.lose(0));
        refused("36 there are none", STATE, FULL, WardrobeVault::unpack);
        refused("36 there are none", STATE, NEW, WardrobeVault::unpack);
    }

    private static void hire() {
        for (int no : NO_NUMBERS) {
            refused("37 piece " + no, INDEX, BUSY, v -> v.hire(no, 1, 1));
            refused("37 days " + no, ARGUMENT, BUSY, v -> v.hire(9, no, 1));
            refused("37 deposit " + no, ARGUMENT, BUSY, v -> v.hire(9, 1, no));
            refused("38 piece " + no, INDEX, BUSY, v -> v.takeBack(no, 1));
            refused("38 wear " + no, ARGUMENT, BUSY, v -> v.takeBack(7, no));
        }
        refused("37 piece 25", INDEX, BUSY, v -> v.hire(25, 1, 1));
        refused("37 days 0", ARGUMENT, BUSY, v -> v.hire(9, 0, 1));
        refused("37 days 100", ARGUMENT, BUSY, v -> v.hire(9, 100, 1));
        refused("37 deposit 10000", ARGUMENT, BUSY, v -> v.hire(9, 1, 10000));
        for (int piece : new int[] {2, 4, 5, 6, 7, 8, 24}) {
            refused("37 on no rail, or the archive: " + piece, UNSUPPORTED, BUSY, v -> v.hire(piece, 1, 1));
            refused("37 and days: " + piece, ARGUMENT, BUSY, v -> v.hire(piece, 0, 1));
        }
        refused("37 no piece and days", INDEX, BUSY, v -> v.hire(25, 0, 1));
        refused("38 piece 25", INDEX, BUSY, v -> v.takeBack(25, 1));
        refused("38 wear 101", ARGUMENT, BUSY, v -> v.takeBack(7, 101));
        for (int piece : new int[] {0, 2, 4, 5, 8}) {
            refused("38 not hired out: " + piece, UNSUPPORTED, BUSY, v -> v.takeBack(piece, 1));
            refused("38 and wear: " + piece, ARGUMENT, BUSY, v -> v.takeBack(piece, 101));
        }
        refused("38 no piece and wear", INDEX, BUSY, v -> v.takeBack(25, 101));
    }

    private static void make() {
        for (int no : NO_NUMBERS) {
            refused("39 show " + no, INDEX, BUSY, v -> v.make(no, 0, 50));
            refused("39 wish " + no, INDEX, BUSY, v -> v.make(0, no, 50));
            refused("39 day " + no, ARGUMENT, BUSY, v -> v.make(0, 0, no));
        }
        refused("39 show 3", INDEX, BUSY, v -> v.make(3, 0, 50));
        refused("39 wish 3", INDEX, BUSY, v -> v.make(0, 3, 50));
        refused("39 wish 30", INDEX, FULL, v -> v.make(0, 30, 50));
        refused("39 today", ARGUMENT, BUSY, v -> v.make(0, 0, 3));
        refused("39 day 10000", ARGUMENT, BUSY, v -> v.make(0, 0, 10000));
        refused("39 there are 40", STATE, FULL, v -> v.make(0, 0, 50));
        refused("39 10 orders", STATE, ORDERED, v -> v.make(0, 0, 50));
        House few = new House("10 orders, few pieces", () -> {
            WardrobeVault v = busy();
            for (int n = 2; n < 10; n++) {
                v.make(0, 0, 9999);
            }
            return v;
        });
        refused("39 10 orders, few pieces", STATE, few, v -> v.make(0, 0, 50));
        House many = new House("39 pieces, 1 order", () -> {
            WardrobeVault v = busy();
            for (int n = 0; n < 13; n++) {
                v.piece(n / 10 * 3, 0, 9, 0, 100, 1);
            }
            return v;
        });
        refused("39 40 with 2 orders", STATE, many, v -> v.make(0, 0, 50));
        refused("39 no wish and day", INDEX, BUSY, v -> v.make(0, 3, 3));
        refused("39 no show and 40", INDEX, FULL, v -> v.make(3, 0, 50));
        refused("39 no wish and 10 orders", INDEX, ORDERED, v -> v.make(0, 1, 50));
        refused("39 today and 40", ARGUMENT, FULL, v -> v.make(0, 0, 0));
        refused("39 day and 10 orders", ARGUMENT, ORDERED, v -> v.make(0, 0, 10000));
    }

    private static void sums() {
        refused("43 no pieces", ARITHMETIC, NEW, WardrobeVault::cleanShare);
        refused("44 no pieces", ARITHMETIC, NEW, WardrobeVault::meanWear);
        House away = new House("none on rails", () -> {
            WardrobeVault v = new WardrobeVault();
            v.piece(0, 0, 0, 0, 100, 1);
            v.quarantine(0);
            return v;
        });
        refused("43 none on rails", ARITHMETIC, away, WardrobeVault::cleanShare);
        House gone = new House("all gone", () -> {
            WardrobeVault v = new WardrobeVault();
            v.piece(0, 0, 0, 0, 100, 1);
            v.body();
            v.show();
            v.scene(0, 1, 1);
            v.wish(0, 0, 0, 0, 0, 0);
            v.dress(0);
            v.pack(0);
            v.lose(0);
            return v;
        });
        refused("43 all gone", ARITHMETIC, gone, WardrobeVault::cleanShare);
        refused("44 all gone", ARITHMETIC, gone, WardrobeVault::meanWear);
    }
}
