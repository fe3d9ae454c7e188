/** Promises 5 to 7, 9 and 10: begin, play, of, goesOn, winner. */
public final class RoundsTest {
    public static void main(String[] args) {
        beginnings();
        plays();
        tells();
        setsAreWon();
        setsWithDraws();
        metersThroughRounds();
        moreLifeWins();
        lifeOfNothing();
        Check.end("RoundsTest");
    }

    /** Move 0 hits from afar, and is soon done. */
    private static DuelFrames withMove(int damage) {
        DuelFrames x = new DuelFrames();
        x.move(1, 1, 1, 150, DuelFrames.MID, damage);
        return x;
    }

    private static void waitOut(DuelFrames x) {
        for (int i = 0; i < 10 && x.goesOn(); i++) {
            x.play(60, 0, 0);
        }
    }

    private static void beginnings() {
        DuelFrames x = withMove(200);
        for (int apart : new int[] {18, 19, 21, 299, 301, 302, 0, -20, Integer.MIN_VALUE, Integer.MAX_VALUE}) {
            Check.outOfRange("begin(" + apart + ")", () -> x.begin(apart));
        }
        Check.no("none has begun", x.goesOn());
        Check.same("begin", x.begin(20), 1);
        Check.yes("goesOn", x.goesOn());
        Check.figure("20 apart", x, 0, 290, 1000, 0, 0, -1, 0, 0, 0);
        Check.figure("20 apart", x, 1, 310, 1000, 0, 0, -1, 0, 0, 0);
        Check.notNow("begin in a round", () -> x.begin(20));
        Check.outOfRange("a wrong one in a round", () -> x.begin(21));
        DuelFrames z = withMove(200);
        z.begin(22);
        Check.figure("22 apart", z, 0, 289, 1000);
        Check.figure("22 apart", z, 1, 311, 1000);
        DuelFrames y = withMove(200);
        y.begin(300);
        Check.figure("300 apart", y, 0, 150, 1000);
        Check.figure("300 apart", y, 1, 450, 1000);
    }

    private static void plays() {
        DuelFrames x = withMove(200);
        Check.notNow("no round", () -> x.play(1, 0, 0));
        Check.outOfRange("no round, no input", () -> x.play(1, 5, 0));
        x.begin(100);
        for (int frames : new int[] {0, 61, -1, Integer.MIN_VALUE, Integer.MAX_VALUE}) {
            Check.outOfRange("frames " + frames, () -> x.play(frames, 0, 0));
        }
        for (int input : new int[] {-1, 5, 9, 11, 16, Integer.MIN_VALUE, Integer.MAX_VALUE}) {
            Check.outOfRange("input " + input, () -> x.play(1, input, 0));
            Check.outOfRange("input " + input, () -> x.play(1, 0, input));
        }
        Check.same("nothing was played", x.play(1, 0, 0), 1);
        for (int input : new int[] {0, 1, 2, 3, 4}) {
            Check.same("input " + input, x.play(1, input, input), 2 + input);
        }
        Check.same("a move", x.play(1, 10, 10), 7);
        Check.same("60 frames", x.play(60, 0, 0), 67);
        for (int i = 0; i < 8; i++) {
            x.play(60, 0, 0);
        }
        Check.same("frame 599", x.play(52, 0, 0), 599);
        Check.yes("goesOn", x.goesOn());
        Check.same("the last frame", x.play(60, 0, 0), 600);
        Check.no("over", x.goesOn());
        Check.notNow("over", () -> x.play(1, 0, 0));
        Check.outOfRange("over, and wrong", () -> x.play(0, 0, 0));
    }

    private static void tells() {
        DuelFrames x = withMove(200);
        Check.outOfBounds("figure 2", () -> x.of(2, 0));
        Check.outOfBounds("figure -1", () -> x.of(-1, 0));
        Check.outOfBounds("the figure is looked at first", () -> x.of(2, 8));
        Check.outOfRange("what 8", () -> x.of(0, 8));
        Check.outOfRange("what -1", () -> x.of(1, -1));
        x.begin(20);
        x.play(1, 10, 0);
        Check.figure("in a move", x, 0, 290, 1000, 0, DuelFrames.MOVE, 0, 1, 0, 0);
        x.play(1, 0, 0);
        Check.figure("it has touched", x, 0, 290, 1000, 5, DuelFrames.MOVE, 0, 2, 0, 0);
        Check.figure("is hit", x, 1, 320, 800, 0, DuelFrames.HIT, DuelFrames.NONE, 19, 1, 0);
        x.play(1, 0, 0);
        Check.figure("it stands", x, 0, 290, 1000, 5, DuelFrames.STANDS, DuelFrames.NONE, 0, 0, 0);
        x.play(17, 0, 0);
        Check.figure("is still hit", x, 1, 320, 800, 0, DuelFrames.HIT, DuelFrames.NONE, 1, 1, 0);
        x.play(1, 0, 0);
        Check.figure("stands again", x, 1, 320, 800, 0, DuelFrames.STANDS, DuelFrames.NONE, 0, 0, 0);
        x.play(1, 10, 2);
        x.play(1, 0, 2);
        Check.figure("blocks", x, 1, 336, 780, 0, DuelFrames.BLOCKS, DuelFrames.NONE, 11, 0, 0);
    }

    private static void setsAreWon() {
        DuelFrames x = withMove(200);
        Check.same("round 1", x.begin(20), 1);
        Check.same("over with the life", x.play(60, 10, 0), 23);
        Check.same("one won", x.of(0, 7), 1);
        Check.same("none won", x.of(1, 7), 0);
        Check.same("the set is not won", x.winner(), DuelFrames.NONE);
        Check.same("round 2", x.begin(20), 2);
        Check.same("won is kept", x.of(0, 7), 1);
        x.play(60, 0, 10);
        Check.same("one each", x.of(1, 7), 1);
        Check.same("the set is still not won", x.winner(), DuelFrames.NONE);
        Check.same("round 3", x.begin(20), 3);
        x.play(60, 0, 10);
        Check.same("two won", x.of(1, 7), 2);
        Check.same("one lost", x.of(0, 7), 1);
        Check.same("the set is won", x.winner(), 1);
        Check.no("no round", x.goesOn());
        Check.same("a new set", x.begin(20), 1);
        Check.same("it is not won", x.winner(), DuelFrames.NONE);
        Check.same("no round of it", x.of(1, 7), 0);
        Check.same("none of it", x.of(0, 7), 0);
        x.play(60, 10, 0);
        x.begin(20);
        x.play(60, 10, 0);
        Check.same("won by the other one", x.winner(), 0);
        Check.same("by two", x.of(0, 7), 2);
    }

    private static void setsWithDraws() {
        DuelFrames x = withMove(1);
        for (int round = 1; round <= 4; round++) {
            Check.same("round", x.begin(300), round);
            waitOut(x);
            Check.no("over by time", x.goesOn());
            Check.same("a draw", x.of(0, 7) + x.of(1, 7), 0);
            Check.same("nobody has won", x.winner(), DuelFrames.NONE);
        }
        Check.same("round 5", x.begin(20), 5);
        x.play(1, 10, 10);
        x.play(1, 0, 0);
        Check.same("both lose", x.of(0, 1), 999);
        Check.same("the same", x.of(1, 1), 999);
        waitOut(x);
        Check.same("a draw with losses", x.of(0, 7) + x.of(1, 7), 0);
    }

    private static void metersThroughRounds() {
        DuelFrames x = withMove(200);
        x.patch(0, 4, 30);
        x.begin(20);
        x.play(60, 10, 0);
        Check.same("up to 100", x.of(0, 2), 100);
        x.begin(20);
        Check.figure("the meter is kept", x, 0, 290, 1000, 100, 0, -1, 0, 0, 1);
        Check.figure("that of the other one", x, 1, 310, 1000, 0, 0, -1, 0, 0, 0);
        x.play(60, 0, 10);
        Check.same("kept again", x.of(0, 2), 100);
        x.begin(20);
        Check.same("of both", x.of(1, 2), 100);
        x.play(60, 10, 0);
        Check.same("won", x.winner(), 0);
        Check.same("not taken as the set ends", x.of(0, 2), 100);
        x.begin(20);
        Check.same("0 in a new set", x.of(0, 2), 0);
        Check.same("0 for both", x.of(1, 2), 0);
    }

    private static void moreLifeWins() {
        DuelFrames x = withMove(50);
        x.begin(20);
        x.play(1, 0, 10);
        waitOut(x);
        Check.same("less life", x.of(0, 1), 950);
        Check.same("more life wins by time", x.of(1, 7), 1);
        // Both fall in one frame: the loss of both is the same, but the figure 0 had lost more ahead of it.
        DuelFrames y = new DuelFrames();
        y.move(1, 1, 1, 150, DuelFrames.MID, 200);
        y.move(1, 1, 1, 150, DuelFrames.MID, 30);
        y.patch(0, 0, 0);
        y.patch(1, 0, 0);
        y.begin(20);
        y.play(1, 0, 11);
        y.play(3, 0, 0);
        int frames = 0;
        for (int i = 0; i < 10 && y.goesOn(); i++) {
            y.play(1, 10, 10);
            frames = y.play(4, 0, 0);
        }
        Check.same("over in the frame of both hits", frames, 4 + 4 * 5 + 2);
        Check.same("life of the figure 0", y.of(0, 1), 970 - 5 * 240);
        Check.same("life of the figure 1", y.of(1, 1), 1000 - 5 * 240);
        Check.same("who has more wins", y.of(1, 7), 1);
        Check.same("who has less does not", y.of(0, 7), 0);
    }

    private static void lifeOfNothing() {
        DuelFrames x = withMove(200);
        x.patch(0, 0, 0);
        x.patch(0, 2, 0);
        x.begin(20);
        for (int i = 0; i < 4; i++) {
            x.play(1, 10, 0);
            x.play(2, 0, 0);
        }
        x.play(1, 0, 10);
        x.play(2, 0, 0);
        Check.figure("200 are left", x, 1, 310, 200);
        Check.yes("it goes on", x.goesOn());
        x.play(1, 10, 0);
        Check.same("just 0 is over", x.play(2, 0, 0), 17);
        Check.figure("0", x, 1, 310, 0);
        Check.no("over", x.goesOn());
        Check.same("won", x.of(0, 7), 1);
        // 1 is left: the round goes on, though the figure 1 can't lose a tenth of less than 10.
        DuelFrames y = new DuelFrames();
        y.move(1, 1, 1, 150, DuelFrames.MID, 111);
        y.move(1, 1, 1, 150, DuelFrames.MID, 9);
        for (int i = 0; i < 2; i++) {
            y.patch(i, 0, 0);
            y.patch(i, 2, 0);
        }
        y.begin(20);
        for (int i = 0; i < 9; i++) {
            y.play(1, 0, 10);
            y.play(2, 0, 0);
        }
        Check.same("1 is left", y.of(0, 1), 1);
        Check.yes("it goes on with 1", y.goesOn());
        y.play(1, 0, 11);
        y.play(2, 4, 0);
        Check.same("blocked for nothing", y.of(0, 1), 1);
        y.play(1, 0, 11);
        y.play(2, 0, 0);
        Check.same("below 0", y.of(0, 1), -8);
        Check.same("the figure 1 has won", y.of(1, 7), 1);
    }
}
