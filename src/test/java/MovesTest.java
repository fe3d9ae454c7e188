/** Promises 2 to 4: move, patch, cancel. */
public final class MovesTest {
    private static final int[] LEAST = {1, 1, 1, 1, 0, 1};
    private static final int[] GREATEST = {30, 10, 40, 150, 3, 200};

    public static void main(String[] args) {
        numbers();
        ranges();
        patches();
        cancels();
        notInRounds();
        Check.end("MovesTest");
    }

    private static int make(DuelFrames x, int[] facts) {
        return x.move(facts[0], facts[1], facts[2], facts[3], facts[4], facts[5]);
    }

    private static void numbers() {
        DuelFrames x = new DuelFrames();
        for (int i = 0; i < 6; i++) {
            Check.same("move", make(x, i % 2 == 0 ? LEAST : GREATEST), i);
        }
        Check.notNow("the seventh", () -> make(x, LEAST));
        Check.outOfRange("a wrong seventh", () -> x.move(0, 1, 1, 1, 0, 1));
        Check.outOfBounds("the seventh is not there", () -> x.patch(6, 0, 0));
        Check.same("the sixth is", x.patch(5, 0, 0), 20);
    }

    private static void ranges() {
        DuelFrames x = new DuelFrames();
        for (int i = 0; i < LEAST.length; i++) {
            int[] facts = LEAST.clone();
            for (int value : new int[] {LEAST[i] - 1, GREATEST[i] + 1, Integer.MIN_VALUE, Integer.MAX_VALUE}) {
                facts[i] = value;
                Check.outOfRange("argument " + i + " of " + value, () -> make(x, facts));
            }
        }
        Check.same("none was made", make(x, LEAST), 0);
    }

    private static void patches() {
        DuelFrames x = new DuelFrames();
        x.move(5, 1, 5, 40, DuelFrames.MID, 10);
        x.move(5, 1, 5, 40, DuelFrames.MID, 10);
        int[] first = {20, 12, 10, 0, 5};
        for (int what = 0; what < first.length; what++) {
            int w = what;
            Check.same("patch " + what, x.patch(0, what, 60), first[what]);
            Check.outOfRange("above", () -> x.patch(0, w, 61));
            Check.outOfRange("below", () -> x.patch(0, w, -1));
            Check.same("patched", x.patch(0, what, 0), 60);
            Check.same("patched again", x.patch(0, what, 7 + what), 0);
        }
        for (int what = 0; what < first.length; what++) {
            Check.same("each on its own", x.patch(0, what, 1), 7 + what);
            Check.same("not the other move", x.patch(1, what, 1), first[what]);
        }
        Check.outOfRange("what is below", () -> x.patch(0, -1, 1));
        Check.outOfRange("what is above", () -> x.patch(0, 5, 1));
        Check.outOfBounds("no such move", () -> x.patch(2, 0, 1));
        Check.outOfBounds("a move below 0", () -> x.patch(-1, 0, 1));
        Check.outOfBounds("the move is looked at first", () -> x.patch(2, 9, 99));
    }

    private static void cancels() {
        DuelFrames x = new DuelFrames();
        x.move(5, 1, 5, 40, DuelFrames.MID, 10);
        x.move(5, 1, 5, 40, DuelFrames.MID, 10);
        Check.no("none at first", x.cancel(0, 1, true));
        Check.yes("it may now", x.cancel(0, 1, true));
        Check.no("not the other way", x.cancel(1, 0, false));
        Check.no("not itself", x.cancel(0, 0, true));
        Check.yes("itself", x.cancel(0, 0, false));
        Check.no("itself no more", x.cancel(0, 0, false));
        Check.yes("it still may", x.cancel(0, 1, false));
        Check.no("it may no more", x.cancel(0, 1, false));
        Check.outOfBounds("no such move", () -> x.cancel(2, 0, true));
        Check.outOfBounds("no such into", () -> x.cancel(0, 2, true));
        Check.outOfBounds("below 0", () -> x.cancel(-1, 0, true));
        Check.outOfBounds("into below 0", () -> x.cancel(0, -1, true));
    }

    private static void notInRounds() {
        DuelFrames x = new DuelFrames();
        x.move(5, 1, 5, 40, DuelFrames.MID, 10);
        x.begin(100);
        Check.notNow("move", () -> x.move(1, 1, 1, 1, 0, 1));
        Check.notNow("patch", () -> x.patch(0, 0, 1));
        Check.notNow("cancel", () -> x.cancel(0, 0, true));
        Check.outOfRange("move out of range", () -> x.move(0, 1, 1, 1, 0, 1));
        Check.outOfRange("patch out of range", () -> x.patch(0, 0, 61));
        Check.outOfBounds("patch of none", () -> x.patch(1, 0, 61));
        Check.outOfBounds("cancel of none", () -> x.cancel(0, 1, true));
        for (int i = 0; i < 10; i++) {
            x.play(60, 0, 0);
        }
        Check.no("over", x.goesOn());
        Check.same("not patched in the round", x.patch(0, 0, 1), 20);
        Check.no("not cancelled in the round", x.cancel(0, 0, true));
        Check.same("not made in the round", x.move(1, 1, 1, 1, 0, 1), 1);
    }
}
