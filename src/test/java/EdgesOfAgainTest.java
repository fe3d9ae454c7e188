/** Promise 8 and the chapter 'Again': a test of its own for each sentence that names a boundary case. */
public final class EdgesOfAgainTest {
    private static final int S = DuelFrames.STANDS, M = DuelFrames.MOVE, H = DuelFrames.HIT;
    private static final int NONE = DuelFrames.NONE, MID = DuelFrames.MID;
    private static final int FAR_BELOW = Integer.MIN_VALUE, FAR_ABOVE = Integer.MAX_VALUE;

    public static void main(String[] args) {
        for (int figure = 0; figure < 2; figure++) {
            Sided.seeFrom(figure);
            all();
        }
        Sided.seeFrom(0);
        Check.end("EdgesOfAgainTest");
    }

    private static void all() {
        noFrameAheadOfTheFirstRound();
        theFrameZero();
        noMoreFramesThanTheRoundHas();
        framesOfARoundThatGoesOn();
        sixHundredFrames();
        framesOfARoundThatIsOver();
        figures();
        whats();
        firstLine();
        theLatestRoundAlone();
        aRefusedBeginIsNoRound();
        aRefusedPlayIsNoFrame();
        theMeterAsTheRoundBegan();
        theMovesAsTheyWere();
        theCancelsAsTheyWere();
        theMovesOfALaterRound();
        behindTheSet();
        nothingIsChangedByIt();
    }

    private static void told(String what, Sided x, int frame, int figure, int... want) {
        for (int i = 0; i < want.length; i++) {
            Check.same(what + ": again(" + frame + ", " + figure + ", " + i + ")", x.again(frame, figure, i), want[i]);
        }
    }

    // "ahead of the first round there is no frame"
    private static void noFrameAheadOfTheFirstRound() {
        Sided x = Scene.withQuick(MID, 100);
        for (int frame : new int[] {0, 1, -1, 600, FAR_BELOW, FAR_ABOVE}) {
            Check.outOfBounds("frame " + frame, () -> x.again(frame, 0, 0));
        }
        Check.outOfBounds("it decides", () -> x.again(0, 0, 7));
    }

    // "frame: 0 .."
    private static void theFrameZero() {
        Sided x = new Sided();
        x.begin(100);
        told("as it begins", x, 0, 0, 250, 1000, 0, S, NONE, 0, 0);
        told("as it begins", x, 0, 1, 350, 1000, 0, S, NONE, 0, 0);
        Check.outOfBounds("ahead of it", () -> x.again(-1, 0, 0));
        x.play(60, 1, 2);
        told("behind 60 frames", x, 0, 0, 250, 1000, 0, S, NONE, 0, 0);
        told("behind 60 frames", x, 0, 1, 350, 1000, 0, S, NONE, 0, 0);
        Check.outOfBounds("ahead of it", () -> x.again(-1, 0, 0));
        Check.outOfBounds("far ahead of it", () -> x.again(FAR_BELOW, 0, 0));
    }

    // ".. to how many frames the round has", "Throws IndexOutOfBoundsException if there is no such frame"
    private static void noMoreFramesThanTheRoundHas() {
        Sided x = new Sided();
        x.begin(300);
        for (int frames = 0; frames <= 3; frames++) {
            int beyond = frames + 1;
            Check.same("the latest", x.again(frames, 0, 0), 150 + 4 * frames);
            Check.outOfBounds("one beyond", () -> x.again(beyond, 0, 0));
            Check.outOfBounds("far beyond", () -> x.again(FAR_ABOVE, 0, 0));
            Check.same("one more", x.play(1, 1, 0), beyond);
        }
    }

    private static void framesOfARoundThatGoesOn() {
        Sided x = Scene.with(3, 2, 4, 150, MID, 100);
        x.begin(40);
        x.play(1, 10, 0);
        Scene.wait(x, 30);
        told("the move begins", x, 1, 0, 280, 1000, 0, M, 0, 1, 0);
        told("ahead of the hit", x, 3, 1, 320, 1000, 0, S, NONE, 0, 0);
        told("the hit", x, 4, 0, 280, 1000, 5, M, 0, 4, 0);
        told("the hit", x, 4, 1, 330, 900, 0, H, NONE, 19, 1);
        told("in the last frame of the move", x, 8, 0, 280, 1000, 5, M, 0, 8, 0);
        told("behind it", x, 9, 0, 280, 1000, 5, S, NONE, 0, 0);
        told("in the last frame of HIT", x, 22, 1, 330, 900, 0, H, NONE, 1, 1);
        told("behind it", x, 23, 1, 330, 900, 0, S, NONE, 0, 0);
        Check.yes("it still goes on", x.goesOn());
    }

    private static void sixHundredFrames() {
        Sided x = new Sided();
        x.begin(20);
        Scene.wait(x, 599);
        x.play(1, 2, 0);
        Check.same("the frame 599", x.again(599, 0, 0), 290);
        Check.same("the frame 600", x.again(600, 0, 0), 287);
        Check.outOfBounds("no frame 601", () -> x.again(601, 0, 0));
    }

    private static void framesOfARoundThatIsOver() {
        Sided x = Scene.withQuick(MID, 200);
        x.begin(20);
        Check.same("over by life", x.play(60, 10, 0), 23);
        told("the last frame", x, 23, 1, 390, -40, 0, H, NONE, 5, 8);
        told("the one ahead", x, 22, 1, 380, 20, 0, H, NONE, 5, 7);
        Check.outOfBounds("the one behind", () -> x.again(24, 0, 0));
        Check.outOfBounds("that of all inputs of the call", () -> x.again(60, 0, 0));
    }

    // "figure: 0 or 1", "Throws IndexOutOfBoundsException if there is no such .. figure"
    private static void figures() {
        Sided x = new Sided();
        x.begin(20);
        for (int figure : new int[] {-1, 2, FAR_BELOW, FAR_ABOVE}) {
            Check.outOfBounds("figure " + figure, () -> x.again(0, figure, 0));
        }
        Check.same("figure 0", x.again(0, 0, 0), 290);
        Check.same("figure 1", x.again(0, 1, 0), 310);
    }

    // "what: 0 to 6", "Throws IllegalArgumentException if what is out of range"
    private static void whats() {
        Sided x = new Sided();
        x.begin(20);
        for (int what : new int[] {-1, 7, 8, FAR_BELOW, FAR_ABOVE}) {
            Check.outOfRange("what " + what, () -> x.again(0, 0, what));
            Check.outOfRange("what " + what, () -> x.again(0, 1, what));
        }
        told("0 to 6", x, 0, 1, 310, 1000, 0, S, NONE, 0, 0);
    }

    // "The first line of a method's throws clause that applies decides"
    private static void firstLine() {
        Sided x = new Sided();
        x.begin(20);
        Check.outOfBounds("no frame, no what", () -> x.again(1, 0, 7));
        Check.outOfBounds("no frame below, no what", () -> x.again(-1, 0, -1));
        Check.outOfBounds("no figure, no what", () -> x.again(0, 2, 7));
        Check.outOfBounds("none of all", () -> x.again(1, -1, -1));
    }

    // "of the latest round"
    private static void theLatestRoundAlone() {
        Sided x = new Sided();
        x.begin(20);
        Scene.wait(x, 600);
        Check.same("of the first round", x.again(600, 0, 0), 290);
        x.begin(300);
        Check.same("of the second, with no frame yet", x.again(0, 0, 0), 150);
        Check.outOfBounds("those of the first are gone", () -> x.again(1, 0, 0));
        Check.outOfBounds("all of them", () -> x.again(600, 0, 0));
        x.play(2, 1, 0);
        Check.same("by the inputs of the second", x.again(1, 0, 0), 154);
        Check.same("by the inputs of the second", x.again(2, 0, 0), 158);
    }

    private static void aRefusedBeginIsNoRound() {
        Sided x = new Sided();
        Check.outOfRange("19 apart", () -> x.begin(19));
        Check.outOfBounds("there is no round", () -> x.again(0, 0, 0));
        x.begin(20);
        x.play(1, 2, 0);
        Check.notNow("in a round", () -> x.begin(300));
        Check.same("the frame 0 is that of the round", x.again(0, 0, 0), 290);
        Check.same("the frame 1, too", x.again(1, 0, 0), 287);
        Scene.wait(x, 599);
        Check.outOfRange("301 apart", () -> x.begin(301));
        Check.same("behind the round", x.again(600, 0, 0), 287);
    }

    private static void aRefusedPlayIsNoFrame() {
        Sided x = new Sided();
        x.begin(20);
        Check.outOfRange("0 frames", () -> x.play(0, 2, 2));
        Check.outOfRange("61 frames", () -> x.play(61, 2, 2));
        Check.outOfRange("no input", () -> x.play(1, 2, 5));
        Check.outOfRange("no move", () -> x.play(1, 10, 2));
        Check.outOfBounds("no frame", () -> x.again(1, 0, 0));
        x.play(1, 2, 2);
        told("the frame 1", x, 1, 0, 287, 1000);
        told("the frame 1", x, 1, 1, 313, 1000);
        Check.outOfBounds("no frame more", () -> x.again(2, 0, 0));
    }

    private static void theMeterAsTheRoundBegan() {
        Sided x = Scene.withQuick(MID, 1);
        x.patch(0, 4, 60);
        x.move(1, 1, 1, 150, MID, 1);
        x.patch(1, 3, 60);
        x.patch(1, 4, 7);
        x.begin(20);
        Scene.quick(x, 0, 0);
        Scene.waitOut(x);
        x.begin(20);
        x.play(1, 11, 0);
        x.play(1, 0, 0);
        Check.same("60 were kept", x.again(0, 0, 2), 60);
        told("they were enough for the cost", x, 1, 0, 290, 1000, 0, M, 1, 1, 0);
        Check.same("and 7 are new", x.again(2, 0, 2), 7);
        Check.same("the other one had none", x.again(0, 1, 2), 0);
    }

    // "by the moves as they were in it, whatever they are by now"
    private static void theMovesAsTheyWere() {
        for (int what = 0; what < 5; what++) {
            Sided x = Scene.withQuick(MID, 100);
            x.patch(0, 3, 0);
            x.begin(20);
            x.play(1, 10, 0);
            x.play(19, 0, 0);
            x.play(10, 0, 0);
            x.play(1, 10, 4);
            x.play(1, 0, 4);
            Scene.waitOut(x);
            x.patch(0, what, 60);
            for (int i = 1; i < 6; i++) {
                x.move(30, 10, 40, 1, MID, 1);
            }
            told("patched " + what + ": the hit", x, 2, 0, 290, 1000, 5, M, 0, 2, 0);
            told("patched " + what + ": the hit", x, 2, 1, 320, 900, 0, H, NONE, 19, 1);
            told("patched " + what + ": the stun", x, 20, 1, 320, 900, 0, H, NONE, 1, 1);
            told("patched " + what + ": its end", x, 21, 1, 320, 900, 0, S, NONE, 0, 0);
            told("patched " + what + ": the block", x, 32, 0, 290, 1000, 10, M, 0, 2, 0);
            told("patched " + what + ": the block", x, 32, 1, 330, 890, 0, DuelFrames.BLOCKS, NONE, 11, 0);
        }
    }

    private static void theCancelsAsTheyWere() {
        for (int is = 0; is < 2; is++) {
            Sided x = Scene.with(1, 1, 40, 150, MID, 10);
            x.move(1, 1, 40, 150, MID, 10);
            x.cancel(0, 1, is == 1);
            x.begin(20);
            x.play(1, 10, 0);
            x.play(1, 0, 0);
            x.play(1, 11, 0);
            Scene.waitOut(x);
            x.cancel(0, 1, is == 0);
            Check.same("it might then: " + is, x.again(3, 0, 4), is);
            Check.same("its frame: " + is, x.again(3, 0, 5), is == 1 ? 1 : 3);
        }
    }

    private static void theMovesOfALaterRound() {
        Sided x = Scene.withQuick(MID, 100);
        x.begin(20);
        Scene.waitOut(x);
        x.patch(0, 2, 60);
        x.move(1, 1, 1, 150, MID, 50);
        x.begin(20);
        x.play(1, 10, 0);
        x.play(2, 0, 0);
        x.play(1, 11, 0);
        x.play(1, 0, 0);
        told("patched between the rounds", x, 2, 1, 370, 900, 0, H, NONE, 19, 1);
        told("made between the rounds", x, 5, 1, 380, 855, 0, H, NONE, 17, 2);
    }

    private static void behindTheSet() {
        Sided x = Scene.withQuick(MID, 200);
        for (int round = 1; round <= 2; round++) {
            x.begin(20);
            x.play(60, 10, 0);
        }
        Check.same("the set is won", x.winner(), 0);
        told("its last round", x, 23, 1, 390, -40, 0, H, NONE, 5, 8);
        Check.same("the meter as its last round began", x.again(0, 0, 2), 40);
        x.begin(20);
        Check.same("the meter as the new set begins", x.again(0, 0, 2), 0);
    }

    private static void nothingIsChangedByIt() {
        Sided x = Scene.withQuick(MID, 200);
        x.begin(20);
        x.play(5, 10, 0);
        for (int frame = 0; frame <= 5; frame++) {
            x.again(frame, 0, 0);
            Check.figure("still", x, 0, 290, 1000, 10, M, 0, 2, 0);
            Check.figure("still", x, 1, 330, 620, 0, H, NONE, 17, 2);
        }
        Check.same("the input that was kept still is", x.play(2, 0, 0), 7);
        Check.same("it begins", x.of(0, 5), 1);
    }
}
