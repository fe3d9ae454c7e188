/** Counts what is not as it is due, and tells of it. */
final class Check {
    private static int done = 0;
    private static int wrong = 0;

    private Check() {
    }

    static void same(String what, long got, long want) {
        done++;
        if (got != want) {
            wrong++;
            System.out.println(what + " answered " + got + ", due is " + want);
        }
    }

    static void yes(String what, boolean got) {
        same(what, got ? 1 : 0, 1);
    }

    static void no(String what, boolean got) {
        same(what, got ? 1 : 0, 0);
    }

    /** The call throws an exception of just this class. */
    static void fails(String what, Class<?> want, Runnable call) {
        done++;
        Class<?> got = null;
        try {
            call.run();
        } catch (RuntimeException e) {
            got = e.getClass();
        }
        if (got != want) {
            wrong++;
            System.out.println(what + " threw " + got + ", due is " + want);
        }
    }

    static void outOfBounds(String what, Runnable call) {
        fails(what, IndexOutOfBoundsException.class, call);
    }

    static void outOfRange(String what, Runnable call) {
        fails(what, IllegalArgumentException.class, call);
    }

    static void notNow(String what, Runnable call) {
        fails(what, IllegalStateException.class, call);
    }

    /** Place, life, meter, what it does, its move, the frame of that, its count. */
    static void figure(String what, DuelFrames x, int figure, int... want) {
        for (int i = 0; i < want.length; i++) {
            same(what + ": of(" + figure + ", " + i + ")", x.of(figure, i), want[i]);
        }
    }

    static void figure(String what, Sided x, int figure, int... want) {
        for (int i = 0; i < want.length; i++) {
            same(what + ": of(" + figure + ", " + i + ")", x.of(figure, i), want[i]);
        }
    }

    static void end(String test) {
        System.out.println(test + ": " + done + " checks, " + wrong + " wrong");
        if (wrong != 0 || done == 0) {
            System.exit(1);
        }
    }
}
