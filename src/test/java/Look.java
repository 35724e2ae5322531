/** All that can be asked of a vault without changing it, as one text: two alike vaults have one text. */
final class Look {
    interface Question {
        long asked();
    }

    private final StringBuilder all = new StringBuilder();

    private Look() {
    }

    static String at(WardrobeVault v) {
        Look look = new Look();
        look.pieces(v);
        look.bodies(v);
        look.shows(v);
        look.ask(v::orders);
        look.ask(v::worth);
        look.ask(v::kept);
        look.ask(() -> Float.floatToIntBits(v.cleanShare()));
        look.ask(() -> Double.doubleToLongBits(v.meanWear()));
        look.ask(() -> v.isSound() ? 1 : 0);
        return look.all.toString();
    }

    private void pieces(WardrobeVault v) {
        for (int piece = 0; piece < 40; piece++) {
            int number = piece;
            ask(() -> v.place(number));
            ask(() -> v.trunk(number));
            for (char kind : "cwlfaousmv".toCharArray()) {
                ask(() -> v.told(number, kind));
            }
            for (char kind : "cwl".toCharArray()) {
                ask(() -> v.allowance(number, kind));
            }
        }
    }

    private void bodies(WardrobeVault v) {
        for (int body = 0; body < 10; body++) {
            int number = body;
            for (int day : new int[] {0, 1, 8, 17, 23, 9999}) {
                ask(() -> v.measured(number, day, 'c') * 1000000L + v.measured(number, day, 'w') * 1000
                    + v.measured(number, day, 'l'));
            }
            for (int piece = 0; piece < 40; piece += 7) {
                int some = piece;
                ask(() -> v.fitting(some, number));
            }
        }
    }

    private void shows(WardrobeVault v) {
        for (int show = 0; show < 3; show++) {
            int number = show;
            ask(() -> v.costumes(number));
            for (int n = 0; n < 30; n++) {
                int wish = n;
                ask(() -> v.given(number, wish));
            }
            for (int n = 0; n < 10; n++) {
                int body = n;
                ask(() -> v.neck(number, body));
                ask(() -> v.change(number, 0, body, 0));
            }
            for (int n = 0; n < 6; n++) {
                int scene = n;
                ask(() -> v.needed(number, scene));
            }
        }
    }

    /** Puts down the answer, or the name of what is thrown. */
    private void ask(Question question) {
        try {
            all.append(question.asked()).append(' ');
        } catch (RuntimeException e) {
            all.append(e.getClass().getSimpleName()).append(' ');
        }
    }
}
