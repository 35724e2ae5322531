import java.lang.reflect.Field;

/**
 * Promise 45's answer 'no': no run of calls can bring it about, so the state is broken from outside.
 * It knows the names of private fields; if they change, it has to change with them.
 */
final class SoundTest {
    private SoundTest() {
    }

    public static void main(String[] args) throws ReflectiveOperationException {
        for (int rail = 0; rail < 4; rail++) {
            railHoldsMore(rail);
        }
        for (int piece = 0; piece < 3; piece++) {
            wearAbove(piece);
            inATrunkThatIsNone(piece);
            inATrunkOfAnotherNumber(piece);
            outOfItsTrunk(piece);
            for (int measure = 0; measure < 3; measure++) {
                alteredInTheArchive(piece, measure);
            }
        }
        for (int show = 0; show < 3; show++) {
            givenTwice(show, 0, 1);
            givenTwice(show, 0, 2);
            givenTwice(show, 1, 2);
        }
        Due.end();
    }

    private static Object of(Object owner, String name) throws ReflectiveOperationException {
        Field field = owner.getClass().getDeclaredField(name);
        field.setAccessible(true);
        return field.get(owner);
    }

    private static void put(Object owner, String name, Object value) throws ReflectiveOperationException {
        Field field = owner.getClass().getDeclaredField(name);
        field.setAccessible(true);
        field.set(owner, value);
    }

    private static Object piece(WardrobeVault v, int number) throws ReflectiveOperationException {
        return ((Object[]) of(of(v, "stock"), "pieces"))[number];
    }

    /** Three shows with three costumes, the pieces 0 to 2 of which are given to each show. */
    private static WardrobeVault house() {
        WardrobeVault v = new WardrobeVault();
        v.body();
        for (int n = 0; n < 3; n++) {
            v.piece(1, n, 0, 0, 100, 60);
        }
        for (int show = 0; show < 3; show++) {
            v.show();
            v.scene(show, 1, 600);
            for (int n = 0; n < 3; n++) {
                v.wish(show, 0, 0, n, 0, 0);
            }
            v.dress(show);
        }
        Due.isTrue("45 at first", v.isSound());
        return v;
    }

    /** "no rail holds more than it can" */
    private static void railHoldsMore(int rail) throws ReflectiveOperationException {
        WardrobeVault v = new WardrobeVault();
        for (int n = 0; n < 12; n++) {
            v.piece(rail, 0, 0, 0, 100, 1);
        }
        v.piece((rail + 1) % 4, 0, 0, 0, 100, 1);
        Due.isTrue("45 twelve on rail " + rail, v.isSound());
        put(piece(v, 12), "rail", rail);
        Due.isFalse("45 thirteen on rail " + rail, v.isSound());
    }

    /** "no wear is above 100" */
    private static void wearAbove(int piece) throws ReflectiveOperationException {
        WardrobeVault v = house();
        put(piece(v, piece), "wear", 100);
        Due.isTrue("45 wear of 100", v.isSound());
        put(piece(v, piece), "wear", 101);
        Due.isFalse("45 wear of 101", v.isSound());
    }

    /** "just the pieces of trunks are in trunks" */
    private static void inATrunkThatIsNone(int piece) throws ReflectiveOperationException {
        WardrobeVault v = house();
        put(piece(v, piece), "spot", 't');
        Due.isFalse("45 without a trunk", v.isSound());
    }

    private static void inATrunkOfAnotherNumber(int piece) throws ReflectiveOperationException {
        WardrobeVault v = house();
        v.pack(0);
        Due.isTrue("45 packed", v.isSound());
        put(piece(v, piece), "trunkNumber", 3);
        Due.isFalse("45 in a fourth trunk of three", v.isSound());
        put(piece(v, piece), "trunkNumber", -1);
        Due.isFalse("45 in a trunk ahead of the first", v.isSound());
    }

    private static void outOfItsTrunk(int piece) throws ReflectiveOperationException {
        WardrobeVault v = house();
        v.pack(0);
        put(piece(v, piece), "spot", 'r');
        Due.isFalse("45 a trunk's piece on a rail", v.isSound());
    }

    /** "nothing in the archive was altered since it came there, or was set there" */
    private static void alteredInTheArchive(int piece, int measure) throws ReflectiveOperationException {
        WardrobeVault v = house();
        int[] sizes = (int[]) of(piece(v, piece), "sizes");
        sizes[measure] = 99;
        Due.isTrue("45 altered outside", v.isSound());
        v.set(piece, 'a', 1);
        Due.isTrue("45 in the archive", v.isSound());
        sizes[measure] = 98;
        Due.isFalse("45 altered there", v.isSound());
        v.set(piece, "cwl".charAt(measure), 97);
        Due.isTrue("45 set there", v.isSound());
        sizes[measure] = 98;
        Due.isFalse("45 altered since", v.isSound());
        v.set(piece, 'a', 0);
        Due.isTrue("45 out of it", v.isSound());
    }

    /** "no piece was given to two costumes of a show" */
    private static void givenTwice(int show, int one, int other) throws ReflectiveOperationException {
        WardrobeVault v = house();
        Object[] shows = (Object[]) of(v, "showRow");
        Object[] wishes = (Object[]) of(shows[show], "wishes");
        put(wishes[other], "pieceGiven", v.given(show, one));
        Due.isFalse("45 given twice", v.isSound());
        v.dress(show);
        Due.isTrue("45 dressed anew", v.isSound());
    }
}
