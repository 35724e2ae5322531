/**
 * Long runs of all calls with ordinary and wild arguments. Each exception is one that the document
 * names for the call, none is the machine's own, a call that throws changes nothing that can be
 * asked for, and the vault stays sound.
 */
final class RobustTest {
    private static final int[] WILD = {Integer.MIN_VALUE, Integer.MIN_VALUE + 1, -1, 40, 251, 9999, 10000,
        65535, Integer.MAX_VALUE - 1, Integer.MAX_VALUE};
    private static final String KINDS = "cwlfaousmvz";
    private static final String[] NAMES = {"piece", "set", "told", "allowance", "place", "copy", "body",
        "measure", "pad", "measured", "fitting", "alter", "undo", "dye", "show", "scene", "wish", "costumes",
        "dress", "given", "fit", "change", "needed", "dressers", "neck", "play", "wash", "hang", "moths",
        "quarantine", "pass", "pack", "trunk", "lose", "unpack", "hire", "takeBack", "make", "orders", "worth",
        "kept", "cleanShare", "meanWear", "isSound"};
    // By the names: I index, A argument, U unsupported, S state, N no element, D arithmetic.
    private static final String[] MAY_THROW = {"AUS", "IA", "IA", "IA", "I", "IAUS", "S",
        "IAS", "IA", "IA", "IU", "IU", "IUN", "IAU", "S", "IAS", "IAUS", "I",
        "I", "IN", "I", "IA", "IN", "A", "I", "IU", "", "IAU", "I",
        "IU", "A", "IUS", "IN", "I", "US", "IAU", "IAU", "IAS", "", "",
        "", "D", "D", ""};

    private static long seed = 7;
    private static int wildOneIn = 20;
    private static final int[] answered = new int[NAMES.length];
    private static final int[] thrown = new int[NAMES.length];

    private RobustTest() {
    }

    public static void main(String[] args) {
        for (int run = 0; run < 300; run++) {
            wildOneIn = run % 3 == 0 ? 4 : 60;
            oneRun(run);
        }
        for (int n = 0; n < NAMES.length; n++) {
            Due.isTrue(NAMES[n] + " answered sometimes", answered[n] > 0);
            Due.isTrue(NAMES[n] + " threw sometimes", thrown[n] > 0 || MAY_THROW[n].isEmpty());
        }
        Due.end();
    }

    private static int below(int bound) {
        seed = seed * 6364136223846793005L + 1442695040888963407L;
        return (int) ((seed >>> 33) % bound);
    }

    /** A number from low to high, and now and then a wild one. */
    private static int number(int low, int high) {
        return below(wildOneIn) == 0 ? WILD[below(WILD.length)] : low + below(high - low + 1);
    }

    private static char kind(String of) {
        return below(wildOneIn) == 0 ? (char) below(65536) : of.charAt(below(of.length()));
    }

    private static void oneRun(int run) {
        WardrobeVault v = new WardrobeVault();
        for (int n = 0; n < 512; n++) {
            int call = n < 60 ? pick(0, 6, 7, 14, 15, 16) : below(NAMES.length);
            long before = seed;
            boolean look = below(8) == 0;
            String digest = look ? Look.at(v) : "";
            try {
                perform(v, call);
                answered[call]++;
            } catch (RuntimeException e) {
                thrown[call]++;
                checkThrown(run, call, e);
                if (look) {
                    Due.same("run " + run + ", call " + n + " " + NAMES[call] + " seed " + before, Look.at(v), digest);
                }
            }
            Due.isTrue("45 run " + run + ", call " + n, v.isSound());
        }
    }

    private static int pick(int... from) {
        return from[below(from.length)];
    }

    private static void checkThrown(int run, int call, RuntimeException e) {
        String names = "IAUSND";
        String[] classes = {"IndexOutOfBoundsException", "IllegalArgumentException",
            "UnsupportedOperationException", "IllegalStateException", "NoSuchElementException",
            "ArithmeticException"};
        boolean documented = false;
        for (int n = 0; n < names.length(); n++) {
            documented |= MAY_THROW[call].indexOf(names.charAt(n)) >= 0
                && classes[n].equals(e.getClass().getSimpleName());
        }
        String said = String.valueOf(e.getMessage());
        boolean machine = said.contains("out of bounds") || said.contains("by zero");
        Due.isTrue("run " + run + ", " + NAMES[call] + " threw " + e, documented && !machine);
    }

    private static void perform(WardrobeVault v, int call) {
        if (call < 14) {
            performPieces(v, call);
        } else if (call < 26) {
            performShows(v, call);
        } else {
            performRest(v, call);
        }
    }

    private static void performPieces(WardrobeVault v, int call) {
        switch (NAMES[call]) {
            case "piece" -> v.piece(number(0, 3), number(0, 3), number(0, 1), number(0, 3), number(97, 106), number(1, 60));
            case "set" -> {
                char kind = kind("cwlfa");
                v.set(number(0, 30), kind, kind == 'a' ? number(0, 1) : kind == 'f' ? number(1, 60) : number(96, 106));
            }
            case "told" -> v.told(number(0, 30), kind(KINDS));
            case "allowance" -> v.allowance(number(0, 30), kind("cwlf"));
            case "place" -> v.place(number(0, 30));
            case "copy" -> v.copy(number(0, 30), number(0, 3));
            case "body" -> v.body();
            case "measure" -> v.measure(number(0, 5), number(0, 40), number(98, 103), number(98, 103), number(98, 103));
            case "pad" -> v.pad(number(0, 5), kind("cwl"), number(0, 3));
            case "measured" -> v.measured(number(0, 5), number(0, 60), kind("cwl"));
            case "fitting" -> v.fitting(number(0, 30), number(0, 5));
            case "alter" -> v.alter(number(0, 30), number(0, 5));
            case "undo" -> v.undo(number(0, 30));
            default -> v.dye(number(0, 30), number(0, 5));
        }
    }

    private static void performShows(WardrobeVault v, int call) {
        int show = number(0, 2);
        switch (NAMES[call]) {
            case "show" -> v.show();
            case "scene" -> v.scene(show, number(1, 99), number(0, 60));
            case "wish" -> v.wish(show, number(0, 4), number(0, 5), number(0, 3), number(0, 1), number(0, 5));
            case "costumes" -> v.costumes(show);
            case "dress" -> v.dress(show);
            case "given" -> v.given(show, number(0, 29));
            case "fit" -> v.fit(show);
            case "change" -> v.change(show, number(0, 5), number(0, 5), number(0, 3));
            case "needed" -> v.needed(show, number(0, 5));
            case "dressers" -> v.dressers(number(0, 20));
            case "neck" -> v.neck(show, number(0, 5));
            default -> v.play(show);
        }
    }

    private static void performRest(WardrobeVault v, int call) {
        switch (NAMES[call]) {
            case "wash" -> v.wash();
            case "hang" -> v.hang(number(0, 30), number(0, 3));
            case "moths" -> v.moths(number(0, 30));
            case "quarantine" -> v.quarantine(number(0, 30));
            case "pass" -> v.pass(number(1, 12));
            case "pack" -> v.pack(number(0, 2));
            case "trunk" -> v.trunk(number(0, 30));
            case "lose" -> v.lose(below(4) == 0 ? number(0, 2) : WILD[below(WILD.length)]);
            case "unpack" -> v.unpack();
            case "hire" -> v.hire(number(0, 30), number(1, 9), number(0, 9999));
            case "takeBack" -> v.takeBack(number(0, 30), number(0, 9));
            case "make" -> v.make(number(0, 2), number(0, 29), number(1, 900));
            case "orders" -> v.orders();
            case "worth" -> v.worth();
            case "kept" -> v.kept();
            case "cleanShare" -> v.cleanShare();
            case "meanWear" -> v.meanWear();
            default -> v.isSound();
        }
    }
}
