/** Promises 28 to 32: wash, hang, moths, quarantine, pass. */
final class CareTest {
    private CareTest() {
    }

    public static void main(String[] args) {
        noonIsTheEnd();
        twoMachines();
        heaviestFirst();
        loadsFillUp();
        firstLoadWithPlace();
        tooHeavyForALoad();
        washesRailsOnly();
        hanging();
        hangWrong();
        moths();
        mothsSpread();
        mothsSpreadBackwards();
        mothsElsewhere();
        quarantines();
        quarantineHeals();
        light();
        days();
        Due.end();
    }

    /** A vault with a piece for each weight, of the layer told, all worn once. */
    private static WardrobeVault worn(int[] layers, int[] weights) {
        WardrobeVault v = new WardrobeVault();
        v.show();
        // Three scenes, so that a body has a layer twice with none in between: two costumes.
        for (int n = 0; n < 3; n++) {
            v.scene(0, 1, 600);
        }
        for (int n = 0; n < weights.length; n++) {
            v.piece(1 + n / 12, layers[n], n % 10, 0, 100, weights[n]);
        }
        for (int n = 0; n < 10; n++) {
            v.body();
        }
        for (int n = 0; n < weights.length; n++) {
            v.wish(0, n / 10 * 2, n % 10, layers[n], n % 10, 0);
        }
        v.dress(0);
        Due.is("worn", v.play(0), weights.length);
        return v;
    }

    private static int[] row(int length, int number) {
        int[] row = new int[length];
        java.util.Arrays.fill(row, number);
        return row;
    }

    private static String clean(WardrobeVault v, int count) {
        StringBuilder all = new StringBuilder();
        for (int n = 0; n < count; n++) {
            all.append(v.told(n, 's'));
        }
        return all.toString();
    }

    private static void noonIsTheEnd() {
        WardrobeVault v = worn(row(8, 1), row(8, 60));
        Due.is("28 three hours each, dry by noon", v.wash(), 6);
        Due.same("28 the lowest first", clean(v, 8), "11111100");
        Due.is("28 wear", v.told(0, 'u'), 3);
        Due.is("28 wear of what is not dry", v.told(7, 'u'), 3);
        Due.is("28 the rest", v.wash(), 2);
        Due.is("28 wear once more", v.told(7, 'u'), 4);
        Due.is("28 clean ones stay out", v.told(0, 'u'), 3);
        Due.is("28 nothing left", v.wash(), 0);
        WardrobeVault two = worn(row(9, 0), row(9, 31));
        Due.is("28 two hours each", two.wash(), 8);
        WardrobeVault four = worn(row(5, 2), row(5, 60));
        Due.is("28 four hours each", four.wash(), 4);
        WardrobeVault six = worn(row(5, 5), row(5, 60));
        Due.is("28 layer 5 is of kind 2", six.wash(), 4);
    }

    private static void twoMachines() {
        int[] layers = {0, 2, 1, 3, 2};
        WardrobeVault v = worn(layers, row(5, 60));
        // Kind 0: 2, 2; kind 1: the first one to 5; kind 2: the second one to 6, the first to 9.
        Due.is("28 all", v.wash(), 5);
        int[] more = {0, 2, 1, 3, 2, 1};
        WardrobeVault w = worn(more, row(6, 60));
        // Kind 0: 2, 2; kind 1: 5, 5; kind 2: 9, 9.
        Due.is("28 all six", w.wash(), 6);
        int[] full = {0, 2, 1, 3, 2, 1, 6};
        WardrobeVault x = worn(full, row(7, 60));
        // Kind 0: 2, 2, 4; kind 1: the second to 5, the first to 7; kind 2: 9, 11.
        Due.is("28 all but the last", x.wash(), 6);
        Due.same("28 the last one", clean(x, 7), "1111011");
    }

    private static void heaviestFirst() {
        // 40 and 20, 30 and 30: in the order of their numbers they would be three loads.
        int[] layers = {0, 0, 0, 0, 2, 2, 2, 2};
        WardrobeVault v = worn(layers, new int[] {30, 40, 20, 30, 60, 60, 60, 60});
        // Two of kind 0 end at 2, so of kind 2 two end at 6 and two at 10.
        Due.is("28 two loads", v.wash(), 6);
        Due.same("28 which", clean(v, 8), "11111100");
        // 31 is alone, 30 and 30 join it not but each other; 29 goes into the first load.
        int[] weights = {30, 29, 31, 30, 60, 60, 60, 60, 60, 60, 60};
        WardrobeVault w = worn(row(11, 0), weights);
        Due.is("28 nine loads", w.wash(), 9);
        Due.same("28 the lightest ones are last", clean(w, 11), "01101111111");
    }

    private static void loadsFillUp() {
        // Three of 20 are a load; five loads of four hours, of which four are dry by noon.
        WardrobeVault v = worn(row(15, 2), row(15, 20));
        Due.is("28 three a load", v.wash(), 12);
        Due.same("28 the last load", clean(v, 15), "111111111111000");
        WardrobeVault w = worn(row(10, 2), row(10, 21));
        Due.is("28 two a load", w.wash(), 8);
    }

    private static void firstLoadWithPlace() {
        // 41, 40, 39, 38, then 20 into the second load and 19 into the first one: 60 each; 22 and 21
        // go with 38 and 39, so that the fifth load holds the 10 alone.
        int[] weights = {10, 19, 20, 21, 22, 38, 39, 40, 41};
        WardrobeVault v = worn(row(9, 2), weights);
        Due.is("28 five loads", v.wash(), 8);
        Due.same("28 the lightest one is late", clean(v, 9), "011111111");
        // 30, 30 fill the first; 25, 25, 10 the second, and the 10 would have had place in the third.
        int[] more = {60, 60, 30, 25, 30, 25, 20, 10};
        WardrobeVault w = worn(row(8, 2), more);
        Due.is("28 the fifth one is late", w.wash(), 7);
        Due.same("28 the first with place takes it", clean(w, 8), "11111101");
    }

    private static void tooHeavyForALoad() {
        WardrobeVault v = worn(row(3, 1), new int[] {99, 61, 1});
        Due.is("28 a load by itself", v.wash(), 3);
        Due.is("28 wear", v.told(0, 'u'), 3);
    }

    private static void washesRailsOnly() {
        WardrobeVault v = worn(row(3, 1), row(3, 10));
        v.quarantine(0);
        v.hire(1, 1, 0);
        v.set(2, 'a', 1);
        Due.is("28 on rails", v.wash(), 1);
        Due.same("28 which", clean(v, 3), "001");
        Due.is("28 wear in the archive", v.told(2, 'u'), 3);
        Due.is("28 wear elsewhere", v.told(0, 'u'), 2);
        v.takeBack(1, 97);
        Due.is("28 worn out", v.wash(), 1);
        Due.is("28 at most 100", v.told(1, 'u'), 100);
    }

    private static void hanging() {
        WardrobeVault v = new WardrobeVault();
        v.piece(0, 0, 0, 0, 100, 1);
        v.piece(0, 0, 0, 0, 100, 1);
        Due.is("29 its own", v.hang(0, 0), 2);
        Due.is("29 another", v.hang(0, 3), 1);
        Due.is("29 more", v.hang(1, 3), 2);
        v.moths(0);
        Due.is("29 with moths", v.hang(0, 2), 1);
        for (int n = 0; n < 11; n++) {
            v.piece(3, 0, 0, 0, 100, 1);
        }
        Due.is("29 its own, full", v.hang(1, 3), 12);
        Due.unsupported("29 full", () -> v.hang(0, 3));
        v.quarantine(1);
        Due.is("29 from quarantine", v.hang(1, 3), 12);
        Due.is("6 on a rail", v.place(1), 'r');
        v.quarantine(1);
        v.hang(0, 3);
        Due.unsupported("29 the old rail is full now", () -> v.hang(1, 3));
        Due.is("29 nothing was hung", v.place(1), 'q');
        Due.isTrue("45 sound", v.isSound());
    }

    private static void hangWrong() {
        WardrobeVault v = new WardrobeVault();
        Due.noIndex("29 no piece", () -> v.hang(0, 9));
        v.piece(0, 0, 0, 0, 100, 1);
        Due.noIndex("29 piece -1", () -> v.hang(-1, 0));
        v.quarantine(0);
        v.moths(0);
        Due.noArgument("29 rail 4", () -> v.hang(0, 4));
        Due.noArgument("29 rail -1", () -> v.hang(0, -1));
        Due.unsupported("29 moths in quarantine", () -> v.hang(0, 0));
        v.piece(0, 0, 0, 0, 100, 1);
        v.hire(1, 1, 1);
        Due.unsupported("29 hired out", () -> v.hang(1, 0));
    }

    private static void moths() {
        WardrobeVault v = new WardrobeVault();
        v.piece(1, 0, 0, 0, 100, 1);
        Due.isTrue("30 had none", v.moths(0));
        Due.is("4 m", v.told(0, 'm'), 1);
        Due.is("30 no wear yet", v.told(0, 'u'), 0);
        Due.isFalse("30 has some", v.moths(0));
        v.pass(1);
        Due.is("32 wear", v.told(0, 'u'), 1);
        v.pass(98);
        v.pass(3);
        Due.is("32 at most 100", v.told(0, 'u'), 100);
        Due.noIndex("30 piece", () -> v.moths(1));
        Due.noIndex("30 piece -1", () -> v.moths(-1));
    }

    private static void mothsSpread() {
        WardrobeVault v = new WardrobeVault();
        v.piece(1, 0, 0, 0, 100, 1);
        v.piece(1, 0, 0, 0, 100, 1);
        v.piece(2, 0, 0, 0, 100, 1);
        v.moths(0);
        v.pass(3);
        Due.isFalse("30 the day stays", v.moths(0));
        v.pass(3);
        Due.is("32 six days", v.told(1, 'm'), 0);
        v.pass(1);
        Due.is("32 seven days", v.told(1, 'm'), 1);
        Due.is("32 wear on this day, too", v.told(1, 'u'), 1);
        Due.is("32 another rail", v.told(2, 'm'), 0);
        Due.is("32 wear of the first", v.told(0, 'u'), 7);
        v.hang(0, 3);
        v.hang(2, 1);
        v.pass(6);
        Due.is("32 the second is young", v.told(2, 'm'), 0);
        v.pass(1);
        Due.is("32 the second spreads", v.told(2, 'm'), 1);
        v.piece(3, 0, 0, 0, 100, 1);
        v.pass(1);
        Due.is("32 later than seven days", v.told(3, 'm'), 1);
    }

    private static void mothsSpreadBackwards() {
        WardrobeVault v = new WardrobeVault();
        v.piece(0, 0, 0, 0, 100, 1);
        v.piece(0, 0, 0, 0, 100, 1);
        v.moths(1);
        v.pass(7);
        Due.is("32 to the lowest piece", v.told(0, 'm') * 10 + v.told(0, 'u'), 11);
        v.quarantine(0);
        v.quarantine(1);
        v.piece(0, 0, 0, 0, 100, 1);
        v.pass(2);
        Due.is("32 the rail itself has none", v.told(2, 'm'), 0);
    }

    private static void mothsElsewhere() {
        WardrobeVault v = new WardrobeVault();
        v.body();
        v.show();
        v.scene(0, 1, 0);
        for (int n = 0; n < 5; n++) {
            v.piece(1, n, 0, 0, 100, 60);
        }
        v.wish(0, 0, 0, 0, 0, 0);
        v.wish(0, 0, 0, 1, 0, 0);
        v.dress(0);
        Due.is("33 two trunks", v.pack(0), 2);
        v.lose(1);
        v.hire(2, 99, 0);
        v.quarantine(3);
        for (int n = 0; n < 4; n++) {
            Due.isTrue("30 anywhere", v.moths(n));
        }
        v.pass(8);
        Due.is("32 wear in a trunk", v.told(0, 'u'), 8);
        Due.is("32 wear of what is gone", v.told(1, 'u'), 0);
        Due.is("32 wear of what is hired out", v.told(2, 'u'), 8);
        Due.is("32 wear in quarantine", v.told(3, 'u'), 8);
        Due.is("32 nothing spreads from there", v.told(4, 'm'), 0);
        v.piece(1, 0, 0, 0, 100, 1);
        v.moths(4);
        v.pass(7);
        Due.is("32 spreads on the rail", v.told(5, 'm'), 1);
        v.unpack();
        Due.is("36 no moths lost", v.told(0, 'm'), 1);
    }

    private static void quarantines() {
        WardrobeVault v = new WardrobeVault();
        v.piece(1, 0, 0, 0, 100, 1);
        v.piece(1, 0, 0, 0, 100, 1);
        Due.is("31 one", v.quarantine(0), 1);
        Due.is("31 two", v.quarantine(1), 2);
        Due.unsupported("31 again", () -> v.quarantine(1));
        Due.is("29 without moths at once", v.hang(0, 0), 1);
        Due.is("31 again two", v.quarantine(0), 2);
        Due.noIndex("31 piece", () -> v.quarantine(2));
        Due.noIndex("31 piece -1", () -> v.quarantine(-1));
    }

    private static void quarantineHeals() {
        WardrobeVault v = new WardrobeVault();
        v.piece(1, 0, 0, 0, 100, 1);
        v.pass(2);
        v.moths(0);
        v.quarantine(0);
        v.pass(13);
        Due.is("32 thirteen days", v.told(0, 'm'), 1);
        Due.unsupported("29 not yet", () -> v.hang(0, 1));
        v.pass(1);
        Due.is("32 fourteen days", v.told(0, 'm'), 0);
        Due.is("32 wear of the last day", v.told(0, 'u'), 14);
        Due.is("6 stays there", v.place(0), 'q');
        v.pass(1);
        Due.is("32 no wear then", v.told(0, 'u'), 14);
        Due.is("29 hung again", v.hang(0, 1), 1);
        v.quarantine(0);
        v.pass(10);
        v.moths(0);
        v.pass(4);
        Due.is("32 the days of the place count", v.told(0, 'm'), 0);
        v.moths(0);
        v.pass(1);
        Due.is("32 it has been there for fourteen days", v.told(0, 'm'), 0);
        v.hang(0, 1);
        v.moths(0);
        v.pass(20);
        v.quarantine(0);
        v.pass(13);
        Due.is("32 counted from the last time on", v.told(0, 'm'), 1);
    }

    private static void light() {
        WardrobeVault v = new WardrobeVault();
        v.piece(0, 0, 0, 0, 100, 1);
        v.piece(1, 0, 0, 0, 100, 1);
        v.piece(0, 0, 0, 0, 100, 1);
        v.set(2, 'a', 1);
        v.pass(9);
        Due.is("32 nine days", v.told(0, 'u'), 0);
        v.pass(1);
        Due.is("32 ten days", v.told(0, 'u'), 1);
        Due.is("32 another rail", v.told(1, 'u'), 0);
        Due.is("32 the archive too", v.told(2, 'u'), 1);
        v.pass(99);
        Due.is("32 to day 109", v.told(0, 'u'), 10);
        v.quarantine(0);
        v.pass(1);
        Due.is("32 in quarantine", v.told(0, 'u'), 10);
    }

    private static void days() {
        WardrobeVault v = new WardrobeVault();
        Due.noArgument("32 none", () -> v.pass(0));
        Due.noArgument("32 below", () -> v.pass(-1));
        Due.noArgument("32 above", () -> v.pass(100));
        Due.noArgument("32 min", () -> v.pass(Integer.MIN_VALUE));
        Due.noArgument("32 max", () -> v.pass(Integer.MAX_VALUE));
        Due.is("32 all", v.pass(99), 99);
        Due.is("32 more", v.pass(1), 100);
    }
}
