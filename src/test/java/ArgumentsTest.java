/**
 * The lowest and the highest of each argument of each promise are taken, and what is just outside
 * is not; RefusedTest holds what such a refused call must not do.
 */
final class ArgumentsTest {
    private ArgumentsTest() {
    }

    public static void main(String[] args) {
        piece();
        set();
        toldAndAllowance();
        placeAndCopy();
        measure();
        pad();
        measured();
        fittingToDye();
        scene();
        wish();
        given();
        change();
        needed();
        dressers();
        neck();
        hang();
        pass();
        trunkAndLose();
        hire();
        takeBack();
        make();
        Due.end();
    }

    private interface Taking {
        void take(int number);
    }

    /** From the lowest to the highest all is taken; one below and one above is refused. */
    private static void range(String what, int low, int high, String refused, Taking taking) {
        Due.same(what + " " + low, Due.thrownBy(() -> taking.take(low)), "nothing");
        Due.same(what + " " + high, Due.thrownBy(() -> taking.take(high)), "nothing");
        Due.same(what + " " + (low - 1), Due.thrownBy(() -> taking.take(low - 1)), refused);
        Due.same(what + " " + (high + 1), Due.thrownBy(() -> taking.take(high + 1)), refused);
    }

    private static void index(String what, int low, int high, Taking taking) {
        range(what, low, high, "IndexOutOfBoundsException", taking);
    }

    private static void argument(String what, int low, int high, Taking taking) {
        range(what, low, high, "IllegalArgumentException", taking);
    }

    /** All of the kinds told are taken, and no other character at all. */
    private static void kinds(String what, String kinds, Taking taking) {
        int wrong = 0;
        for (int kind = 0; kind < 65536; kind++) {
            int number = kind;
            String due = kinds.indexOf(kind) >= 0 ? "nothing" : "IllegalArgumentException";
            if (!due.equals(Due.thrownBy(() -> taking.take(number)))) {
                wrong++;
            }
        }
        Due.is(what + ": kinds not as due", wrong, 0);
    }

    /** Pieces 0 and 1, bodies 0 and 1, shows 0 and 1, scenes 0 to 2 of show 0, two wishes. */
    private static WardrobeVault house() {
        WardrobeVault v = new WardrobeVault();
        for (int n = 0; n < 2; n++) {
            v.piece(1, n, 0, 0, 100, 99);
            v.body();
            v.show();
        }
        for (int n = 0; n < 3; n++) {
            v.scene(0, 1, 600);
        }
        v.wish(0, 0, 0, 0, 0, 0);
        v.wish(0, 2, 1, 1, 0, 0);
        v.dress(0);
        return v;
    }

    private static void piece() {
        WardrobeVault v = new WardrobeVault();
        argument("2 rail", 0, 3, n -> v.piece(n, 0, 0, 0, 100, 1));
        argument("2 layer", 0, 6, n -> v.piece(0, n, 0, 0, 100, 1));
        argument("2 period", 0, 9, n -> v.piece(0, 0, n, 0, 100, 1));
        argument("2 colour", 0, 5, n -> v.piece(0, 0, 0, n, 100, 1));
        argument("2 size", 1, 250, n -> v.piece(1, 0, 0, 0, n, 1));
        argument("2 weight", 1, 99, n -> v.piece(1, 0, 0, 0, 100, n));
        Due.is("2 twelve were taken", v.piece(1, 0, 0, 0, 100, 1), 12);
    }

    private static void set() {
        WardrobeVault v = house();
        index("3 piece", 0, 1, n -> v.set(n, 'c', 100));
        argument("3 c", 1, 250, n -> v.set(0, 'c', n));
        argument("3 w", 1, 250, n -> v.set(0, 'w', n));
        argument("3 l", 1, 250, n -> v.set(0, 'l', n));
        argument("3 f", 1, 60, n -> v.set(0, 'f', n));
        argument("3 a", 0, 1, n -> v.set(0, 'a', n));
        kinds("3 kind", "cwlfa", n -> v.set(0, (char) n, 1));
    }

    private static void toldAndAllowance() {
        WardrobeVault v = house();
        index("4 piece", 0, 1, n -> v.told(n, 'c'));
        index("5 piece", 0, 1, n -> v.allowance(n, 'c'));
        kinds("4 kind", "cwlfaousmv", n -> v.told(0, (char) n));
        kinds("5 kind", "cwl", n -> v.allowance(0, (char) n));
    }

    private static void placeAndCopy() {
        WardrobeVault v = house();
        index("6 piece", 0, 1, v::place);
        v.set(0, 'a', 1);
        v.set(1, 'a', 1);
        argument("7 rail", 0, 3, n -> v.copy(0, n));
        Due.is("7 the lowest piece", v.copy(0, 2), 4);
        Due.is("7 the highest piece", v.copy(1, 2), 5);
        Due.noIndex("7 piece -1", () -> v.copy(-1, 2));
        Due.noIndex("7 piece 6", () -> v.copy(6, 2));
    }

    private static void measure() {
        WardrobeVault v = house();
        index("9 body", 0, 1, n -> v.measure(n, 1, 100, 100, 100));
        argument("9 day", 0, 9999, n -> v.measure(0, n, 100, 100, 100));
        argument("9 chest", 1, 250, n -> v.measure(0, 1, n, 100, 100));
        argument("9 waist", 1, 250, n -> v.measure(0, 1, 100, n, 100));
        argument("9 length", 1, 250, n -> v.measure(0, 1, 100, 100, n));
        Due.is("9 the highest", v.measure(0, 9999, 250, 250, 250), 3);
        Due.is("9 the lowest", v.measure(0, 0, 1, 1, 1), 3);
        Due.is("11 the highest", v.measured(0, 9999, 'l'), 250);
        Due.is("11 the lowest", v.measured(0, 0, 'l'), 1);
    }

    private static void pad() {
        WardrobeVault v = house();
        index("10 body", 0, 1, n -> v.pad(n, 'c', 1));
        for (char kind : "cwl".toCharArray()) {
            argument("10 padding of " + kind, 0, 9, n -> v.pad(0, kind, n));
        }
        kinds("10 kind", "cwl", n -> v.pad(0, (char) n, 1));
    }

    private static void measured() {
        WardrobeVault v = house();
        index("11 body", 0, 1, n -> v.measured(n, 1, 'c'));
        argument("11 day", 0, 9999, n -> v.measured(0, n, 'c'));
        kinds("11 kind", "cwl", n -> v.measured(0, 0, (char) n));
    }

    private static void fittingToDye() {
        WardrobeVault v = house();
        index("12 piece", 0, 1, n -> v.fitting(n, 0));
        index("12 body", 0, 1, n -> v.fitting(0, n));
        v.set(0, 'c', 99);
        v.set(1, 'c', 99);
        index("13 piece", 0, 1, n -> v.alter(n, 0));
        index("14 piece", 0, 1, v::undo);
        index("13 body", 0, 1, n -> {
            v.alter(0, n);
            v.undo(0);
        });
        index("15 piece", 0, 1, n -> v.dye(n, 1));
        Due.is("15 black", v.dye(0, 5), 1);
        Due.unsupported("15 white is a colour, but never darker", () -> v.dye(1, 0));
        Due.noArgument("15 colour -1", () -> v.dye(1, -1));
        Due.noArgument("15 colour 6", () -> v.dye(1, 6));
    }

    private static void scene() {
        WardrobeVault v = house();
        index("17 show", 0, 1, n -> v.scene(n, 1, 1));
        argument("17 minutes", 1, 99, n -> v.scene(1, n, 1));
        argument("17 seconds", 0, 600, n -> v.scene(1, 1, n));
        Due.is("17 five were taken", v.scene(1, 1, 1), 6);
    }

    private static void wish() {
        WardrobeVault v = house();
        v.scene(1, 1, 1);
        index("18 show", 0, 1, n -> v.wish(n, 0, 0, 6, 0, 0));
        index("18 scene", 0, 2, n -> v.wish(0, n, 0, 5, 0, 0));
        index("18 body", 0, 1, n -> v.wish(0, 0, n, 4, 0, 0));
        argument("18 layer", 0, 6, n -> v.wish(0, 1, 1, n, 0, 0));
        argument("18 period", 0, 9, n -> v.wish(0, 2, 0, n < 9 ? 0 : 1, n, 0));
        argument("18 colour", 0, 5, n -> v.wish(0, 2, 0, n < 5 ? 2 : 3, 0, n));
        Due.is("18 twelve more were taken", v.wish(0, 2, 0, 4, 0, 0), 13);
    }

    private static void given() {
        WardrobeVault v = house();
        index("21 wish", 0, 1, n -> v.given(0, n));
        index("19 show", 0, 1, v::costumes);
        index("20 show", 0, 1, v::dress);
        index("22 show", 0, 1, v::fit);
        index("27 show", 0, 1, v::play);
        WardrobeVault w = house();
        w.scene(1, 1, 1);
        w.wish(1, 0, 0, 0, 0, 0);
        w.dress(1);
        index("21 show", 0, 1, n -> w.given(n, 0));
        index("33 show", 0, 1, n -> {
            w.pack(n);
            w.unpack();
        });
    }

    private static void change() {
        WardrobeVault v = house();
        index("23 scene", 0, 1, n -> v.change(0, n, 0, 0));
        index("23 body", 0, 1, n -> v.change(0, 0, n, 0));
        argument("23 dressers", 0, 3, n -> v.change(0, 0, 0, n));
        v.scene(1, 1, 1);
        v.scene(1, 1, 1);
        index("23 show", 0, 1, n -> v.change(n, 0, 0, 0));
        v.scene(0, 1, 1);
        index("23 the last but one then", 0, 2, n -> v.change(0, n, 0, 0));
    }

    private static void needed() {
        WardrobeVault v = house();
        index("24 scene", 0, 1, n -> v.needed(0, n));
        v.scene(1, 1, 1);
        Due.noIndex("24 the only scene", () -> v.needed(1, 0));
        v.scene(1, 1, 1);
        index("24 show", 0, 1, n -> v.needed(n, 0));
        for (int n = 0; n < 3; n++) {
            v.scene(0, 1, 1);
        }
        index("24 six scenes", 0, 4, n -> v.needed(0, n));
    }

    private static void dressers() {
        WardrobeVault v = new WardrobeVault();
        argument("25 dressers", 0, 20, v::dressers);
        Due.is("25 the last one taken", v.dressers(0), 20);
    }

    private static void neck() {
        WardrobeVault v = house();
        index("26 show", 0, 1, n -> v.neck(n, 0));
        index("26 body", 0, 1, n -> v.neck(0, n));
    }

    private static void hang() {
        WardrobeVault v = house();
        index("29 piece", 0, 1, n -> v.hang(n, 0));
        argument("29 rail", 0, 3, n -> v.hang(0, n));
        index("30 piece", 0, 1, v::moths);
        index("31 piece", 0, 1, v::quarantine);
    }

    private static void pass() {
        WardrobeVault v = new WardrobeVault();
        argument("32 days", 1, 99, v::pass);
        Due.is("32 a hundred passed", v.pass(1), 101);
    }

    private static void trunkAndLose() {
        WardrobeVault v = house();
        v.pack(0);
        index("34 piece", 0, 1, v::trunk);
        index("35 trunk", 0, 1, v::lose);
    }

    private static void hire() {
        WardrobeVault v = house();
        index("37 piece", 0, 1, n -> v.hire(n, 1, 1));
        index("38 piece", 0, 1, n -> v.takeBack(n, 0));
        argument("37 days", 1, 99, n -> {
            v.hire(0, n, 1);
            v.takeBack(0, 0);
        });
        argument("37 deposit", 0, 9999, n -> {
            v.hire(0, 1, n);
            v.takeBack(0, 0);
        });
    }

    private static void takeBack() {
        WardrobeVault v = house();
        argument("38 wear", 0, 100, n -> {
            if (v.place(0) == 'r') {
                v.hire(0, 1, 1);
            }
            v.takeBack(0, n);
        });
        Due.is("38 the last one taken", v.told(0, 'u'), 100);
    }

    private static void make() {
        WardrobeVault v = house();
        v.scene(1, 1, 1);
        v.wish(1, 0, 0, 0, 0, 0);
        index("39 show", 0, 1, n -> v.make(n, 0, 50));
        index("39 wish", 0, 1, n -> v.make(0, n, 50));
        argument("39 day", 1, 9999, n -> v.make(0, 0, n));
        v.pass(20);
        argument("39 day, later", 21, 9999, n -> v.make(0, 0, n));
        Due.is("40 all but two are done", v.orders(), 2);
    }
}
