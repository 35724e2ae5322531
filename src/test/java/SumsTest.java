/** Promises 41 to 45: worth, kept, cleanShare, meanWear, isSound. */
final class SumsTest {
    private SumsTest() {
    }

    public static void main(String[] args) {
        worth();
        kept();
        cleanShare();
        meanWear();
        nothingLeft();
        sound();
        Due.end();
    }

    /** Three pieces of layers 0 to 2, two of them given to the one show's one body. */
    private static WardrobeVault house() {
        WardrobeVault v = new WardrobeVault();
        v.body();
        v.show();
        v.scene(0, 10, 600);
        for (int layer = 0; layer < 3; layer++) {
            v.piece(1, layer, 0, 0, 100, 60);
        }
        v.wish(0, 0, 0, 0, 0, 0);
        v.wish(0, 0, 0, 1, 0, 0);
        v.dress(0);
        return v;
    }

    private static void worth() {
        WardrobeVault v = house();
        Due.is("41 all", v.worth(), 100 + 200 + 300);
        v.set(2, 'a', 1);
        Due.is("41 in the archive", v.worth(), 100 + 200 + 3000);
        v.play(0);
        Due.is("41 worn", v.worth(), 98 + 196 + 3000);
        v.hire(0, 1, 1);
        v.quarantine(1);
        Due.is("41 wherever it is", v.worth(), 98 + 196 + 3000);
        v.hang(1, 1);
        v.takeBack(0, 100);
        Due.is("41 worn out", v.worth(), 196 + 3000);
        v.pack(0);
        Due.is("41 in trunks", v.worth(), 196 + 3000);
        v.lose(1);
        Due.is("41 what is gone", v.worth(), 3000);
        WardrobeVault all = new WardrobeVault();
        for (int n = 0; n < 40; n++) {
            all.piece(n / 12, 6, 0, 0, 100, 1);
            all.set(n, 'a', 1);
        }
        Due.is("41 the most", all.worth(), 280000);
    }

    private static void kept() {
        WardrobeVault v = house();
        v.hire(0, 1, 9999);
        Due.is("42 not yet", v.kept(), 0);
        v.takeBack(0, 33);
        Due.is("42 one", v.kept(), 3299);
        for (int n = 0; n < 100; n++) {
            v.hire(1, 1, 9999);
            v.takeBack(1, 100);
        }
        Due.is("42 many", v.kept(), 3299 + 999900);
    }

    private static void cleanShare() {
        WardrobeVault v = house();
        Due.isExactly("43 all", v.cleanShare(), 1);
        v.play(0);
        Due.isExactly("43 a third", v.cleanShare(), 1f / 3f);
        v.quarantine(0);
        Due.isExactly("43 on rails only", v.cleanShare(), 0.5f);
        v.quarantine(2);
        Due.isExactly("43 none", v.cleanShare(), 0);
        v.hang(0, 1);
        v.wash();
        Due.isExactly("43 washed", v.cleanShare(), 1);
        v.quarantine(0);
        v.quarantine(1);
        Due.arithmetic("43 none on rails", v::cleanShare);
    }

    private static void meanWear() {
        WardrobeVault v = house();
        Due.isExactly("44 new", v.meanWear(), 0);
        v.moths(1);
        v.pass(1);
        Due.isExactly("44 a third", v.meanWear(), 1.0 / 3.0);
        v.hire(2, 1, 1);
        v.pass(1);
        Due.isExactly("44 wherever they are", v.meanWear(), 2.0 / 3.0);
        Due.is("33 two", v.pack(0), 2);
        v.lose(0);
        Due.isExactly("44 but for what is gone", v.meanWear(), 1);
        v.lose(1);
        Due.isExactly("44 the hired one", v.meanWear(), 0);
        WardrobeVault worn = house();
        worn.play(0);
        Due.isExactly("44 of all", worn.meanWear(), 4.0 / 3.0);
    }

    private static void nothingLeft() {
        WardrobeVault v = new WardrobeVault();
        v.body();
        v.show();
        v.scene(0, 1, 0);
        v.piece(1, 0, 0, 0, 100, 1);
        v.wish(0, 0, 0, 0, 0, 0);
        v.dress(0);
        v.pack(0);
        Due.arithmetic("43 in a trunk", v::cleanShare);
        v.lose(0);
        Due.arithmetic("43 gone", v::cleanShare);
        Due.arithmetic("44 gone", v::meanWear);
        Due.is("41 gone", v.worth(), 0);
    }

    private static void sound() {
        WardrobeVault v = house();
        Due.isTrue("45 at first", v.isSound());
        v.pack(0);
        Due.isTrue("45 packed", v.isSound());
        v.lose(0);
        Due.isTrue("45 lost", v.isSound());
        v.unpack();
        Due.isTrue("45 unpacked", v.isSound());
        v.set(1, 'c', 98);
        v.alter(1, 0);
        v.set(1, 'a', 1);
        Due.isTrue("45 altered ahead of the archive", v.isSound());
        v.set(1, 'c', 97);
        Due.isTrue("45 set in the archive", v.isSound());
        v.moths(1);
        v.pass(99);
        v.pass(99);
        Due.isTrue("45 worn out", v.isSound());
    }
}
