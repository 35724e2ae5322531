/** Counts the answers that are not as due; each test ends with end(). */
final class Due {
    private static int wrong = 0;
    private static int looked = 0;

    private Due() {
    }

    interface Call {
        void run();
    }

    static void is(String what, long got, long want) {
        looked++;
        if (got != want) {
            wrong++;
            System.out.println(what + " answered " + got + ", due is " + want);
        }
    }

    static void isTrue(String what, boolean got) {
        is(what, got ? 1 : 0, 1);
    }

    static void isFalse(String what, boolean got) {
        is(what, got ? 1 : 0, 0);
    }

    static void isExactly(String what, double got, double want) {
        looked++;
        if (got != want) {
            wrong++;
            System.out.println(what + " answered " + got + ", due is " + want);
        }
    }

    static void same(String what, String got, String want) {
        looked++;
        if (!want.equals(got)) {
            wrong++;
            System.out.println(what + " answered\n  " + got + "\ndue is\n  " + want);
        }
    }

    /** The very class of what the call throws, "nothing" if it throws nothing. */
    static String thrownBy(Call call) {
        try {
            call.run();
            return "nothing";
        } catch (Throwable thrown) {
            return thrown.getClass().getSimpleName();
        }
    }

    static void noIndex(String what, Call call) {
        same(what, thrownBy(call), "IndexOutOfBoundsException");
    }

    static void noArgument(String what, Call call) {
        same(what, thrownBy(call), "IllegalArgumentException");
    }

    static void unsupported(String what, Call call) {
        same(what, thrownBy(call), "UnsupportedOperationException");
    }

    static void badState(String what, Call call) {
        same(what, thrownBy(call), "IllegalStateException");
    }

    static void noElement(String what, Call call) {
        same(what, thrownBy(call), "NoSuchElementException");
    }

    static void arithmetic(String what, Call call) {
        same(what, thrownBy(call), "ArithmeticException");
    }

    static void end() {
        System.out.println(looked + " answers, " + wrong + " not as due");
        if (wrong != 0) {
            System.exit(1);
        }
    }
}
