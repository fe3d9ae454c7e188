import java.util.function.IntSupplier;

/** All promises: runs of many calls, wrong ones among them, against Plain. */
public final class WildTest {
    private static final int RUNS = 4000;
    /** What an object answers behind its call 512 is free. */
    private static final int CALLS = 512;
    private static final int CALLS_OF_A_STEP = 60;
    private static final int[] WRONG = {-1, Integer.MIN_VALUE, Integer.MAX_VALUE, 7, 61, 601, 5, 9, 16};

    private static long mixed = 20261119;
    private static int moves;
    private static int calls;

    public static void main(String[] args) {
        for (int run = 0; run < RUNS; run++) {
            DuelFrames x = new DuelFrames();
            Plain p = new Plain();
            moves = 0;
            calls = 0;
            makeMoves(run, x, p);
            while (calls + CALLS_OF_A_STEP <= CALLS) {
                call(run, x, p);
            }
        }
        Check.end("WildTest");
    }

    /** The same numbers in each run of the test: a linear congruence. */
    private static int upTo(int bound) {
        mixed = mixed * 6364136223846793005L + 1442695040888963407L;
        return (int) ((mixed >>> 33) % bound);
    }

    private static int between(int least, int greatest) {
        return least + upTo(greatest - least + 1);
    }

    private static int maybeWrong(int value) {
        return upTo(60) == 0 ? WRONG[upTo(WRONG.length)] : value;
    }

    private static int answer(IntSupplier call) {
        try {
            return call.getAsInt();
        } catch (IndexOutOfBoundsException e) {
            return e.getClass() == IndexOutOfBoundsException.class ? 1_000_001 : 1_000_009;
        } catch (IllegalArgumentException e) {
            return e.getClass() == IllegalArgumentException.class ? 1_000_002 : 1_000_009;
        } catch (IllegalStateException e) {
            return e.getClass() == IllegalStateException.class ? 1_000_003 : 1_000_009;
        } catch (RuntimeException e) {
            return 1_000_009;
        }
    }

    private static void same(int run, String what, DuelFrames x, Plain p, IntSupplier got, IntSupplier want) {
        int due = answer(want);
        calls++;
        Check.same("run " + run + ": " + what, answer(got), due);
        if (due > 1_000_000) {
            sameState(run, what, x, p);
        }
    }

    /** All that is told of the figures, each fourth time; otherwise some of it. */
    private static void sameState(int run, String what, DuelFrames x, Plain p) {
        boolean isAll = upTo(4) == 0;
        for (int i = isAll ? 0 : upTo(4); i < 16; i += isAll ? 1 : 4) {
            calls++;
            Check.same("run " + run + ": " + what + ", then of(" + i / 8 + ", " + i % 8 + ")",
                    x.of(i / 8, i % 8), p.of(i / 8, i % 8));
        }
        calls += 2;
        Check.same("run " + run + ": " + what + ", then goesOn", x.goesOn() ? 1 : 0, p.goesOn() ? 1 : 0);
        Check.same("run " + run + ": " + what + ", then winner", x.winner(), p.winner());
    }

    private static void makeMoves(int run, DuelFrames x, Plain p) {
        int wanted = upTo(5) == 0 ? between(0, 1) : between(2, 6);
        for (int i = 0; i < wanted; i++) {
            makeMove(run, x, p);
        }
        for (int i = 0; i < wanted * 4; i++) {
            patch(run, x, p);
            cancel(run, x, p);
        }
    }

    private static void makeMove(int run, DuelFrames x, Plain p) {
        boolean isQuick = upTo(3) != 0;
        int startup = maybeWrong(isQuick ? between(1, 5) : between(1, 30));
        int active = maybeWrong(isQuick ? between(1, 4) : between(1, 10));
        int recovery = maybeWrong(isQuick ? between(1, 10) : between(1, 40));
        int reach = maybeWrong(upTo(2) == 0 ? between(20, 60) : between(1, 150));
        int kind = maybeWrong(between(0, 3));
        int damage = maybeWrong(upTo(3) == 0 ? between(1, 20) : between(1, 200));
        same(run, "move", x, p, () -> x.move(startup, active, recovery, reach, kind, damage),
                () -> p.move(startup, active, recovery, reach, kind, damage));
        moves = Math.min(6, moves + 1);
    }

    private static int anyMove() {
        return maybeWrong(upTo(Math.max(1, moves)));
    }

    private static void patch(int run, DuelFrames x, Plain p) {
        int move = anyMove();
        int what = maybeWrong(upTo(5));
        int value = maybeWrong(what < 2 || upTo(2) == 0 ? between(0, 60) : between(0, 15));
        same(run, "patch", x, p, () -> x.patch(move, what, value), () -> p.patch(move, what, value));
    }

    private static void cancel(int run, DuelFrames x, Plain p) {
        int move = anyMove();
        int into = anyMove();
        boolean is = upTo(3) != 0;
        same(run, "cancel", x, p, () -> x.cancel(move, into, is) ? 1 : 0, () -> p.cancel(move, into, is) ? 1 : 0);
    }

    private static int anyInput() {
        int[] going = {0, 1, 1, 2, 3, 4};
        return maybeWrong(moves > 0 && upTo(5) < 3 ? 10 + upTo(moves) : going[upTo(going.length)]);
    }

    private static void call(int run, DuelFrames x, Plain p) {
        int which = upTo(100);
        if (which < 60) {
            play(run, x, p);
        } else if (which < 70) {
            int apart = upTo(3) != 0 ? 20 + 2 * upTo(20) : maybeWrong(between(20, 300));
            same(run, "begin(" + apart + ")", x, p, () -> x.begin(apart), () -> p.begin(apart));
            sameState(run, "begin", x, p);
        } else if (which < 80) {
            int frame = maybeWrong(upTo(6) == 0 ? upTo(600) : upTo(120));
            int figure = maybeWrong(upTo(2));
            int what = maybeWrong(upTo(7));
            same(run, "again(" + frame + ", " + figure + ", " + what + ")", x, p,
                    () -> x.again(frame, figure, what), () -> p.again(frame, figure, what));
        } else if (which < 90) {
            change(run, x, p);
        } else {
            look(run, x, p);
        }
    }

    private static void play(int run, DuelFrames x, Plain p) {
        int frames = maybeWrong(upTo(4) == 0 ? between(1, 60) : between(1, 4));
        int one = anyInput();
        int two = anyInput();
        String what = "play(" + frames + ", " + one + ", " + two + ")";
        same(run, what, x, p, () -> x.play(frames, one, two), () -> p.play(frames, one, two));
        sameState(run, what, x, p);
        int figure = maybeWrong(upTo(2));
        int told = maybeWrong(upTo(8));
        same(run, "of(" + figure + ", " + told + ")", x, p, () -> x.of(figure, told), () -> p.of(figure, told));
    }

    private static void change(int run, DuelFrames x, Plain p) {
        int which = upTo(8);
        if (which == 0) {
            makeMove(run, x, p);
        } else if (which < 5) {
            patch(run, x, p);
        } else {
            cancel(run, x, p);
        }
    }

    private static void look(int run, DuelFrames x, Plain p) {
        int move = anyMove();
        int by = anyMove();
        int hits = maybeWrong(upTo(10) == 0 ? 4 : between(1, 3));
        int meter = maybeWrong(between(0, 100));
        int place = maybeWrong(between(0, 3));
        boolean isBlocked = upTo(2) == 0;
        int which = upTo(4);
        if (which == 0) {
            same(run, "advantage", x, p, () -> x.advantage(move, isBlocked), () -> p.advantage(move, isBlocked));
        } else if (which == 1) {
            same(run, "punish", x, p, () -> x.punish(move, by), () -> p.punish(move, by));
        } else if (which == 2) {
            same(run, "most", x, p, () -> x.most(move, hits, meter), () -> p.most(move, hits, meter));
        } else {
            same(run, "mostAt", x, p, () -> x.mostAt(move, hits, meter, place),
                    () -> p.mostAt(move, hits, meter, place));
        }
    }
}
