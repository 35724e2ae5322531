/** Promises 8 to 15: body, measure, pad, measured, fitting, alter, undo, dye. */
final class BodiesTest {
    private BodiesTest() {
    }

    public static void main(String[] args) {
        bodies();
        measuresBetween();
        measureWrong();
        padding();
        fits();
        fitsPaddedToday();
        alterations();
        alterationsThatLast();
        alterWrong();
        undoWrong();
        dyes();
        Due.end();
    }

    private static void bodies() {
        WardrobeVault v = new WardrobeVault();
        for (int n = 0; n < 10; n++) {
            Due.is("8 number", v.body(), n);
        }
        Due.badState("8 ten", v::body);
        for (char kind : new char[] {'c', 'w', 'l'}) {
            Due.is("8 measure", v.measured(9, 0, kind), 100);
            Due.is("8 measure later", v.measured(9, 9999, kind), 100);
        }
    }

    private static void measuresBetween() {
        WardrobeVault v = new WardrobeVault();
        v.body();
        Due.is("9 second day", v.measure(0, 10, 107, 93, 250), 2);
        Due.is("11 rising", v.measured(0, 3, 'c'), 102);
        Due.is("11 falling is rounded down", v.measured(0, 3, 'w'), 97);
        Due.is("11 length", v.measured(0, 9, 'l'), 235);
        Due.is("11 on the day", v.measured(0, 10, 'w'), 93);
        Due.is("11 behind the last day", v.measured(0, 9999, 'c'), 107);
        Due.is("9 in place", v.measure(0, 10, 117, 93, 1), 2);
        Due.is("11 in place", v.measured(0, 10, 'c'), 117);
        Due.is("9 day 0", v.measure(0, 0, 107, 250, 1), 2);
        Due.is("11 day 0", v.measured(0, 0, 'w'), 250);
        Due.is("11 between", v.measured(0, 9, 'c'), 116);
        Due.is("9 a day between", v.measure(0, 4, 90, 90, 90), 3);
        Due.is("11 ahead of it", v.measured(0, 3, 'c'), 94);
        Due.is("11 behind it", v.measured(0, 5, 'c'), 94);
        Due.is("9 last day", v.measure(0, 9999, 1, 1, 1), 4);
        Due.is("11 far", v.measured(0, 9998, 'c'), 1);
        Due.is("11 far, middle", v.measured(0, 5000, 'c'), 117 + Math.floorDiv(-116 * 4990, 9989));
    }

    private static void measureWrong() {
        WardrobeVault v = new WardrobeVault();
        Due.noIndex("9 no body", () -> v.measure(0, -1, 0, 0, 0));
        v.body();
        Due.noIndex("9 body 1", () -> v.measure(1, 1, 100, 100, 100));
        Due.noIndex("9 body -1", () -> v.measure(-1, 1, 100, 100, 100));
        Due.noArgument("9 day -1", () -> v.measure(0, -1, 100, 100, 100));
        Due.noArgument("9 day 10000", () -> v.measure(0, 10000, 100, 100, 100));
        Due.noArgument("9 chest", () -> v.measure(0, 1, 0, 100, 100));
        Due.noArgument("9 chest", () -> v.measure(0, 1, 251, 100, 100));
        Due.noArgument("9 waist", () -> v.measure(0, 1, 100, 0, 100));
        Due.noArgument("9 waist", () -> v.measure(0, 1, 100, 251, 100));
        Due.noArgument("9 length", () -> v.measure(0, 1, 100, 100, 0));
        Due.noArgument("9 length", () -> v.measure(0, 1, 100, 100, 251));
        for (int day = 1; day < 8; day++) {
            Due.is("9 days", v.measure(0, day, 1, 1, 1), day + 1);
        }
        Due.badState("9 a ninth day", () -> v.measure(0, 8, 100, 100, 100));
        Due.noArgument("9 argument ahead of days", () -> v.measure(0, 8, 100, 100, 251));
        Due.is("9 a day told before", v.measure(0, 7, 2, 3, 4), 8);
        Due.is("11 nothing was put", v.measured(0, 8, 'l'), 4);
        Due.noIndex("11 body", () -> v.measured(1, -1, 'z'));
        Due.noArgument("11 day -1", () -> v.measured(0, -1, 'c'));
        Due.noArgument("11 day 10000", () -> v.measured(0, 10000, 'c'));
        Due.noArgument("11 kind", () -> v.measured(0, 0, 'f'));
    }

    private static void padding() {
        WardrobeVault v = new WardrobeVault();
        v.body();
        Due.is("10 c", v.pad(0, 'c', 9), 0);
        Due.is("10 w", v.pad(0, 'w', 1), 0);
        Due.is("10 l", v.pad(0, 'l', 2), 0);
        Due.is("10 again", v.pad(0, 'c', 0), 9);
        Due.is("11 c", v.measured(0, 0, 'c'), 100);
        Due.is("11 w", v.measured(0, 0, 'w'), 101);
        Due.is("11 l", v.measured(0, 0, 'l'), 102);
        Due.noIndex("10 body", () -> v.pad(1, 'c', 1));
        Due.noIndex("10 body ahead of kind", () -> v.pad(-1, 'z', 10));
        Due.noArgument("10 kind", () -> v.pad(0, 'f', 1));
        Due.noArgument("10 padding 10", () -> v.pad(0, 'w', 10));
        Due.noArgument("10 padding -1", () -> v.pad(0, 'w', -1));
        Due.is("10 nothing was put", v.pad(0, 'w', 1), 1);
        v.measure(0, 5, 250, 250, 250);
        v.pad(0, 'c', 9);
        Due.is("11 above the greatest size", v.measured(0, 5, 'c'), 259);
    }

    private static void fits() {
        WardrobeVault v = new WardrobeVault();
        v.body();
        int[] sizes = {100, 104, 105, 97, 96, 250, 1};
        for (int size : sizes) {
            v.piece(1, 0, 0, 0, size, 1);
        }
        Due.is("12 just", v.fitting(0, 0), 0);
        Due.is("12 4 more", v.fitting(1, 0), 0);
        Due.is("12 5 more", v.fitting(2, 0), 60);
        Due.is("12 let out", v.fitting(3, 0), 180);
        Due.unsupported("12 allowance", () -> v.fitting(4, 0));
        Due.is("12 take in", v.fitting(5, 0), 3 * 146 * 20);
        Due.unsupported("12 far", () -> v.fitting(6, 0));
        v.set(0, 'w', 99);
        Due.is("12 one measure", v.fitting(0, 0), 20);
        v.set(0, 'a', 1);
        v.set(1, 'a', 1);
        Due.unsupported("12 the archive bars it", () -> v.fitting(0, 0));
        Due.is("12 it fits in the archive", v.fitting(1, 0), 0);
        Due.noIndex("12 piece", () -> v.fitting(7, 0));
        Due.noIndex("12 piece -1", () -> v.fitting(-1, 0));
        Due.noIndex("12 body", () -> v.fitting(4, 1));
        Due.noIndex("12 body -1", () -> v.fitting(4, -1));
        v.quarantine(3);
        Due.is("12 anywhere", v.fitting(3, 0), 180);
    }

    private static void fitsPaddedToday() {
        WardrobeVault v = new WardrobeVault();
        v.body();
        v.measure(0, 10, 110, 100, 100);
        v.piece(1, 0, 0, 0, 104, 1);
        Due.is("12 on day 0", v.fitting(0, 0), 0);
        v.pad(0, 'w', 5);
        Due.is("12 padded", v.fitting(0, 0), 20);
        v.pass(6);
        Due.is("12 on day 6", v.fitting(0, 0), 60);
        v.pass(2);
        Due.unsupported("12 on day 8", () -> v.fitting(0, 0));
    }

    private static void alterations() {
        WardrobeVault v = new WardrobeVault();
        v.body();
        v.body();
        v.measure(1, 0, 102, 98, 120);
        v.piece(1, 0, 0, 0, 97, 1);
        v.set(0, 'w', 110);
        v.set(0, 'l', 102);
        Due.is("13 first", v.alter(0, 0), 1);
        Due.is("13 chest", v.told(0, 'c'), 100);
        Due.is("13 waist", v.told(0, 'w'), 104);
        Due.is("13 length", v.told(0, 'l'), 102);
        Due.is("13 chest's allowance", v.allowance(0, 'c'), 0);
        Due.is("13 waist's allowance", v.allowance(0, 'w'), 9);
        Due.is("13 length's allowance", v.allowance(0, 'l'), 3);
        Due.unsupported("13 it fits", () -> v.alter(0, 0));
        Due.unsupported("13 it cannot be done", () -> v.alter(0, 1));
        v.measure(1, 0, 100, 90, 105);
        Due.is("13 second", v.alter(0, 1), 2);
        Due.is("13 waist again", v.told(0, 'w'), 94);
        Due.is("13 waist's allowance again", v.allowance(0, 'w'), 19);
        Due.is("13 length's allowance again", v.allowance(0, 'l'), 0);
        Due.is("14 one", v.undo(0), 1);
        Due.is("14 waist", v.told(0, 'w'), 104);
        Due.is("14 waist's allowance", v.allowance(0, 'w'), 9);
        Due.is("14 length", v.told(0, 'l'), 102);
        Due.is("14 length's allowance", v.allowance(0, 'l'), 3);
        Due.is("14 two", v.undo(0), 0);
        Due.is("14 chest", v.told(0, 'c'), 97);
        Due.is("14 chest's allowance", v.allowance(0, 'c'), 3);
        Due.is("14 waist", v.told(0, 'w'), 110);
        Due.noElement("14 none", () -> v.undo(0));
    }

    private static void alterationsThatLast() {
        for (char kind : new char[] {'c', 'w', 'l'}) {
            WardrobeVault v = new WardrobeVault();
            v.body();
            v.piece(1, 0, 0, 0, 97, 1);
            v.piece(1, 0, 0, 0, 97, 1);
            v.alter(0, 0);
            v.alter(1, 0);
            v.set(0, 'f', 7);
            v.set(0, 'a', 1);
            v.set(0, 'a', 0);
            Due.noArgument("3 wrong", () -> v.set(0, kind, 251));
            Due.is("14 a fastening lets them be", v.undo(0), 0);
            v.alter(0, 0);
            v.set(0, kind, 100);
            Due.noElement("14 setting a measure", () -> v.undo(0));
            Due.is("14 the allowance stays", v.allowance(0, kind), 0);
            Due.is("14 of another piece", v.undo(1), 0);
        }
    }

    private static void alterWrong() {
        WardrobeVault v = new WardrobeVault();
        v.body();
        v.piece(1, 0, 0, 0, 97, 1);
        Due.noIndex("13 piece", () -> v.alter(1, 0));
        Due.noIndex("13 piece -1", () -> v.alter(-1, 0));
        Due.noIndex("13 body", () -> v.alter(0, 1));
        Due.noIndex("13 body -1", () -> v.alter(0, -1));
        v.set(0, 'a', 1);
        Due.unsupported("13 archive", () -> v.alter(0, 0));
        v.set(0, 'a', 0);
        v.quarantine(0);
        Due.unsupported("13 on no rail", () -> v.alter(0, 0));
        v.hang(0, 1);
        v.set(0, 'l', 96);
        Due.unsupported("13 one measure bars all", () -> v.alter(0, 0));
        Due.is("13 nothing was altered", v.told(0, 'c') + v.allowance(0, 'c'), 100);
        v.set(0, 'l', 250);
        v.measure(0, 0, 98, 98, 250);
        v.pad(0, 'l', 3);
        Due.is("13 beyond the greatest size", v.alter(0, 0), 1);
        Due.is("13 length", v.told(0, 'l'), 253);
    }

    private static void undoWrong() {
        WardrobeVault v = new WardrobeVault();
        v.body();
        v.piece(1, 0, 0, 0, 97, 1);
        Due.noIndex("14 piece", () -> v.undo(1));
        Due.noIndex("14 piece -1", () -> v.undo(-1));
        v.quarantine(0);
        Due.unsupported("14 no rail ahead of none", () -> v.undo(0));
        v.hang(0, 1);
        v.alter(0, 0);
        v.set(0, 'a', 1);
        Due.unsupported("14 archive", () -> v.undo(0));
        v.set(0, 'a', 0);
        v.hire(0, 1, 1);
        Due.unsupported("14 hired out", () -> v.undo(0));
        v.takeBack(0, 0);
        Due.is("14 back again", v.undo(0), 0);
    }

    private static void dyes() {
        WardrobeVault v = new WardrobeVault();
        v.piece(1, 0, 0, 0, 97, 1);
        Due.is("15 darker", v.dye(0, 3), 0);
        Due.unsupported("15 the same", () -> v.dye(0, 3));
        Due.unsupported("15 lighter", () -> v.dye(0, 2));
        Due.is("15 black", v.dye(0, 5), 3);
        Due.is("15 colour", v.told(0, 'o'), 5);
        v.piece(1, 0, 0, 1, 97, 1);
        Due.noIndex("15 piece", () -> v.dye(2, 9));
        Due.noIndex("15 piece -1", () -> v.dye(-1, 3));
        v.set(1, 'a', 1);
        Due.noArgument("15 colour 6", () -> v.dye(1, 6));
        Due.noArgument("15 colour -1", () -> v.dye(1, -1));
        Due.unsupported("15 archive", () -> v.dye(1, 3));
        v.set(1, 'a', 0);
        v.quarantine(1);
        Due.unsupported("15 on no rail", () -> v.dye(1, 3));
        Due.is("15 nothing was dyed", v.told(1, 'o'), 1);
    }
}
