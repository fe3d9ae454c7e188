/** The steps 1 to 3 of 'A frame': a test of its own for each sentence that names a boundary case. */
public final class EdgesOfFramesTest {
    private static final int S = DuelFrames.STANDS, M = DuelFrames.MOVE, H = DuelFrames.HIT, B = DuelFrames.BLOCKS;
    private static final int NONE = DuelFrames.NONE, MID = DuelFrames.MID;

    public static void main(String[] args) {
        for (int figure = 0; figure < 2; figure++) {
            Sided.seeFrom(figure);
            all();
        }
        Sided.seeFrom(0);
        lessThanTwentyApart();
        Check.end("EdgesOfFramesTest");
    }

    private static void all() {
        keptForFiveFramesInAMove();
        keptForFiveFramesWhileHit();
        keptForFiveFramesWhileItBlocks();
        keptForFiveFramesTillItTouches();
        keptWhateverInputsCome();
        keptThroughAHit();
        keptThroughABlock();
        keptInPlaceOfAnother();
        keptForItsOwnFiveFrames();
        keptInPlaceEvenIfItCannotBegin();
        droppedWhenItBegins();
        droppedAsARoundBegins();
        costAtMostTheMeter();
        costOfTheFigureOne();
        theCostIsTakenOnce();
        beginsOnlyIfItStands();
        noCancelAheadOfTheTouch();
        noCancelWithoutATouch();
        noCancelIntoOthers();
        noCancelByTheTouchOfTheMoveAhead();
        cancelTenFramesBehindAHit();
        cancelTenFramesBehindABlock();
        cancelTenFramesBehindAParting();
        cancelOfTheFrameOfTheTouch();
        cancelIntoTheFrameZero();
        cancelByItsCost();
        fourForwardThreeBack();
        onlyThoseWhoStandGo();
        whoBeginsDoesNotGo();
        theStageBeginsAtZero();
        theStageEndsAtSixHundred();
        twentyFromTheEnd();
        bothGoToTheEnd();
    }

    /** Two moves of ten frames that reach nobody, as far as the nearest is 20. */
    private static Sided withTwo() {
        Sided x = Scene.with(4, 1, 5, 1, MID, 10);
        x.move(4, 1, 5, 1, MID, 10);
        return x;
    }

    // ---- 1. "An input of a move is kept for 5 frames, this one with them"

    private static void keptForFiveFramesInAMove() {
        for (int frame = 2; frame <= 10; frame++) {
            Sided x = withTwo();
            x.begin(100);
            x.play(1, 10, 0);
            Scene.wait(x, frame - 2);
            x.play(1, 11, 0);
            Scene.wait(x, 10 - frame);
            Check.same("free behind the frame 10", x.of(0, 3), S);
            x.play(1, 0, 0);
            Check.same("input in the frame " + frame + ", free in 11", x.of(0, 4), frame >= 7 ? 1 : NONE);
            Scene.wait(x, 5);
            Check.same("nothing more behind that", x.of(0, 4), frame >= 7 ? 1 : NONE);
        }
    }

    private static void keptForFiveFramesWhileHit() {
        for (int frame = 16; frame <= 21; frame++) {
            Sided x = Scene.withQuick(MID, 10);
            x.begin(100);
            x.play(1, 10, 0);
            Scene.wait(x, frame - 2);
            Check.same("HIT", x.of(1, 3), H);
            x.play(1, 0, 10);
            Scene.wait(x, 21 - frame);
            Check.same("free behind the frame 21", x.of(1, 3), S);
            x.play(1, 0, 0);
            Check.same("input in the frame " + frame + ", free in 22", x.of(1, 4), frame >= 18 ? 0 : NONE);
        }
    }

    private static void keptForFiveFramesWhileItBlocks() {
        for (int frame = 8; frame <= 13; frame++) {
            Sided x = Scene.withQuick(MID, 10);
            x.begin(100);
            x.play(1, 10, 0);
            x.play(1, 0, 4);
            Scene.wait(x, frame - 3);
            Check.same("BLOCKS", x.of(1, 3), B);
            x.play(1, 0, 10);
            Scene.wait(x, 13 - frame);
            Check.same("free behind the frame 13", x.of(1, 3), S);
            x.play(1, 0, 0);
            Check.same("input in the frame " + frame + ", free in 14", x.of(1, 4), frame >= 10 ? 0 : NONE);
        }
    }

    /** It touches in the frame 11; from then on there is the meter for the other one. */
    private static void keptForFiveFramesTillItTouches() {
        for (int frame = 6; frame <= 12; frame++) {
            Sided x = Scene.with(10, 1, 30, 150, MID, 10);
            x.move(4, 1, 5, 1, MID, 10);
            x.cancel(0, 1, true);
            x.patch(1, 3, 5);
            x.begin(100);
            x.play(1, 10, 0);
            Scene.wait(x, frame - 2);
            x.play(1, 11, 0);
            Scene.wait(x, 11 - frame);
            if (frame <= 11) {
                Check.figure("it has just touched", x, 0, 250, 1000, 5, M, 0, 11, 0);
                x.play(1, 0, 0);
            }
            Check.same("input in the frame " + frame + ", free in 12", x.of(0, 4), frame >= 8 ? 1 : 0);
        }
    }

    private static void keptWhateverInputsCome() {
        Sided x = withTwo();
        x.begin(100);
        x.play(1, 10, 0);
        Scene.wait(x, 5);
        for (int input : new int[] {11, 4, 3, 2, 1}) {
            x.play(1, input, 0);
        }
        Check.figure("no other input takes its place", x, 0, 250, 1000, 0, M, 1, 1, 0);
    }

    /** HIT in a MOVE in the frame 2, for 4 frames: the input of that frame begins in the frame 6. */
    private static void keptThroughAHit() {
        for (int stun = 0; stun <= 1; stun++) {
            Sided x = Scene.withQuick(MID, 10);
            x.move(4, 1, 40, 1, MID, 10);
            x.patch(0, 0, stun);
            x.begin(100);
            x.play(1, 10, 11);
            x.play(1, 0, 10);
            Check.same("HIT out of its move", x.of(1, 3), H);
            Scene.wait(x, 3 + stun);
            Check.same("free", x.of(1, 3), S);
            x.play(1, 0, 0);
            Check.same("free in the frame " + (6 + stun), x.of(1, 4), stun == 0 ? 0 : NONE);
        }
    }

    /** BLOCKS once more in the frame 5: the input of the frame 4 begins in the frame 8 at the latest. */
    private static void keptThroughABlock() {
        for (int stun = 2; stun <= 4; stun++) {
            Sided x = Scene.withQuick(MID, 10);
            x.move(1, 1, 1, 150, MID, 10);
            x.patch(1, 1, stun);
            x.begin(100);
            Scene.quick(x, 0, 4);
            x.play(1, 11, 10);
            x.play(1, 0, 4);
            Check.same("BLOCKS once more", x.of(1, 5), stun - 1);
            Scene.wait(x, stun - 1);
            Check.same("free", x.of(1, 3), S);
            x.play(1, 0, 0);
            Check.same("free in the frame " + (5 + stun), x.of(1, 4), stun <= 3 ? 0 : NONE);
        }
    }

    // "in place of one that was kept"
    private static void keptInPlaceOfAnother() {
        Sided x = withTwo();
        x.move(1, 1, 1, 1, MID, 10);
        x.begin(100);
        x.play(1, 10, 0);
        Scene.wait(x, 6);
        x.play(1, 10, 0);
        x.play(1, 12, 0);
        Scene.wait(x, 2);
        Check.same("the later one begins", x.of(0, 4), 2);
        Scene.wait(x, 2);
        Check.same("it is over", x.of(0, 3), S);
        x.play(1, 0, 0);
        Check.same("the one ahead is gone", x.of(0, 3), S);
    }

    private static void keptForItsOwnFiveFrames() {
        Sided x = withTwo();
        x.begin(100);
        x.play(1, 10, 0);
        Scene.wait(x, 4);
        x.play(2, 11, 0);
        Scene.wait(x, 3);
        x.play(1, 0, 0);
        Check.same("twice, in the frames 6 and 7", x.of(0, 4), 1);
        Sided y = withTwo();
        y.begin(100);
        y.play(1, 10, 0);
        Scene.wait(y, 3);
        y.play(2, 11, 0);
        Scene.wait(y, 4);
        y.play(1, 0, 0);
        Check.same("twice, in the frames 5 and 6", y.of(0, 4), NONE);
    }

    private static void keptInPlaceEvenIfItCannotBegin() {
        Sided x = withTwo();
        x.patch(1, 3, 1);
        x.begin(100);
        x.play(1, 10, 0);
        Scene.wait(x, 7);
        x.play(1, 10, 0);
        x.play(1, 11, 0);
        Scene.wait(x, 6);
        Check.same("neither begins", x.of(0, 3), S);
    }

    // "it is dropped when it begins"
    private static void droppedWhenItBegins() {
        for (int figure = 0; figure < 2; figure++) {
            Sided x = Scene.with(1, 1, 1, 1, MID, 10);
            x.begin(100);
            x.play(1, figure == 0 ? 10 : 0, figure == 1 ? 10 : 0);
            Check.same("in the move", x.of(figure, 3), M);
            Scene.wait(x, 2);
            for (int frame = 4; frame <= 6; frame++) {
                x.play(1, 0, 0);
                Check.same("not once more in the frame " + frame, x.of(figure, 3), S);
            }
        }
    }

    // "and as a round begins"
    private static void droppedAsARoundBegins() {
        Sided x = withTwo();
        x.begin(100);
        Scene.wait(x, 595);
        x.play(1, 10, 10);
        Scene.wait(x, 3);
        x.play(1, 11, 11);
        Check.no("over with kept inputs", x.goesOn());
        x.begin(100);
        for (int frame = 1; frame <= 5; frame++) {
            x.play(1, 0, 0);
            Check.same("the figure 0 in the frame " + frame, x.of(0, 3), S);
            Check.same("the figure 1 in the frame " + frame, x.of(1, 3), S);
        }
    }

    // ---- 2. "begins, if its cost is at most the meter"

    private static void cost(int gain, int cost, boolean begins) {
        Sided x = Scene.withQuick(MID, 10);
        x.move(4, 1, 5, 1, MID, 10);
        x.patch(0, 4, gain);
        x.patch(1, 3, cost);
        x.begin(100);
        Scene.quick(x, 0, 0);
        Check.same("the meter", x.of(0, 2), gain);
        x.play(1, 11, 0);
        String what = "cost " + cost + ", meter " + gain;
        Check.same(what, x.of(0, 3), begins ? M : S);
        Check.same(what + ": the move", x.of(0, 4), begins ? 1 : NONE);
        Check.same(what + ": the meter behind it", x.of(0, 2), begins ? gain - cost : gain);
    }

    private static void costAtMostTheMeter() {
        cost(0, 0, true);
        cost(0, 1, false);
        cost(1, 0, true);
        cost(1, 1, true);
        cost(1, 2, false);
        cost(59, 59, true);
        cost(59, 60, false);
        cost(60, 59, true);
        cost(60, 60, true);
    }

    private static void costOfTheFigureOne() {
        Sided x = Scene.withQuick(MID, 10);
        x.patch(0, 3, 5);
        x.move(1, 1, 1, 150, MID, 10);
        x.begin(100);
        x.play(1, 0, 11);
        x.play(2, 0, 0);
        Check.same("the figure 1 has 5", x.of(1, 2), 5);
        x.play(1, 10, 10);
        Check.same("the figure 0 has not", x.of(0, 3), H);
        Check.figure("the figure 1 begins", x, 1, 350, 1000, 0, M, 0, 1, 0);
    }

    // "The cost is taken"
    private static void theCostIsTakenOnce() {
        Sided x = Scene.withQuick(MID, 10);
        x.move(4, 1, 5, 1, MID, 10);
        x.patch(0, 4, 60);
        x.patch(1, 3, 20);
        x.begin(100);
        Scene.quick(x, 0, 0);
        x.play(1, 11, 0);
        Check.same("as it begins", x.of(0, 2), 40);
        x.play(9, 11, 0);
        Check.same("not while it is kept", x.of(0, 2), 40);
        x.play(1, 0, 0);
        Check.same("as it begins once more", x.of(0, 2), 20);
    }

    // "and the figure STANDS, or is in a MOVE that has touched in it"
    private static void beginsOnlyIfItStands() {
        Sided x = Scene.withQuick(MID, 10);
        x.move(4, 1, 5, 1, MID, 10);
        x.cancel(1, 0, true);
        x.begin(100);
        x.play(1, 0, 10);
        Check.same("STANDS: it begins", x.of(1, 4), 0);
        Scene.wait(x, 30);
        x.play(1, 10, 11);
        Check.same("in a MOVE", x.of(1, 4), 1);
        x.play(1, 0, 10);
        Check.figure("HIT out of it", x, 1, 360, 988, 5, H, NONE, 23, 1);
        x.play(18, 0, 10);
        Check.figure("HIT: none begins", x, 1, 360, 988, 5, H, NONE, 5, 1);
        Sided y = Scene.withQuick(MID, 10);
        y.begin(100);
        y.play(1, 10, 0);
        y.play(1, 0, 4);
        y.play(10, 0, 10);
        Check.figure("BLOCKS: none begins", y, 1, 360, 999, 0, B, NONE, 1, 0);
    }

    /** A move that touches in its fourth frame and is over behind the 34th, and one into which it may be cancelled. */
    private static Sided withCancel(int kind) {
        Sided x = Scene.with(3, 1, 30, 150, kind, 10);
        x.move(4, 1, 5, 1, MID, 10);
        x.cancel(0, 1, true);
        return x;
    }

    private static void noCancelAheadOfTheTouch() {
        Sided x = withCancel(MID);
        x.begin(100);
        x.play(1, 10, 0);
        for (int frame = 2; frame <= 4; frame++) {
            x.play(1, 11, 0);
            Check.figure("frame " + frame, x, 0, 250, 1000, frame == 4 ? 5 : 0, M, 0, frame, 0);
        }
    }

    private static void noCancelWithoutATouch() {
        Sided x = withCancel(MID);
        x.begin(152);
        x.play(1, 10, 0);
        x.play(33, 11, 0);
        Check.same("out of reach: till its last frame", x.of(0, 3), S);
        x.play(1, 0, 0);
        Check.same("and the other one behind it", x.of(0, 4), 1);
    }

    // "and may be cancelled into that one"
    private static void noCancelIntoOthers() {
        Sided x = withCancel(MID);
        x.move(4, 1, 5, 1, MID, 10);
        x.cancel(2, 0, true);
        x.cancel(1, 2, true);
        x.begin(100);
        x.play(1, 10, 0);
        Scene.wait(x, 3);
        x.play(1, 12, 0);
        Check.same("not into 2", x.of(0, 4), 0);
        x.play(1, 10, 0);
        Check.same("not into itself", x.of(0, 5), 6);
        x.play(1, 11, 0);
        Check.same("into 1", x.of(0, 4), 1);
        x.play(1, 12, 0);
        Check.same("1 has not touched", x.of(0, 4), 1);
    }

    private static void noCancelByTheTouchOfTheMoveAhead() {
        Sided x = Scene.withQuick(MID, 10);
        x.move(5, 1, 5, 1, MID, 10);
        x.cancel(1, 0, true);
        x.begin(100);
        Scene.quick(x, 0, 0);
        x.play(1, 11, 0);
        x.play(1, 10, 0);
        Check.figure("three frames behind the touch of another one", x, 0, 250, 1000, 5, M, 1, 2, 0);
        x.play(8, 10, 0);
        Check.figure("till its end", x, 0, 250, 1000, 5, M, 1, 10, 0);
    }

    // "at most 10 frames ago (in the frame t + 10, having touched in t, it still may)"

    /** The touch is in the frame 4, the input in one frame alone. */
    private static void cancelIn(String what, int kind, int guard, int frame, boolean begins) {
        Sided x = withCancel(kind);
        x.begin(100);
        x.play(1, 10, kind == DuelFrames.THROW ? 10 : 0);
        x.play(3, 0, guard);
        Scene.wait(x, frame - 5);
        x.play(1, 11, 0);
        Check.same(what + ", the frame " + frame, x.of(0, 4), begins ? 1 : 0);
        Check.same(what + ", the frame " + frame + ": its frame", x.of(0, 5), begins ? 1 : frame);
        Scene.wait(x, 4);
        Check.same(what + ", four frames later", x.of(0, 4), begins ? 1 : 0);
    }

    private static void cancelTenFramesBehindAHit() {
        cancelIn("a hit", MID, 0, 5, true);
        cancelIn("a hit", MID, 0, 13, true);
        cancelIn("a hit", MID, 0, 14, true);
        cancelIn("a hit", MID, 0, 15, false);
        cancelIn("a hit", MID, 0, 16, false);
    }

    private static void cancelTenFramesBehindABlock() {
        cancelIn("a block", MID, 4, 5, true);
        cancelIn("a block", MID, 4, 14, true);
        cancelIn("a block", MID, 4, 15, false);
    }

    private static void cancelTenFramesBehindAParting() {
        cancelIn("a parting", DuelFrames.THROW, 0, 5, true);
        cancelIn("a parting", DuelFrames.THROW, 0, 14, true);
        cancelIn("a parting", DuelFrames.THROW, 0, 15, false);
    }

    private static void cancelOfTheFrameOfTheTouch() {
        Sided x = withCancel(MID);
        x.begin(100);
        x.play(1, 10, 0);
        Scene.wait(x, 2);
        x.play(1, 11, 0);
        Check.figure("not in the frame t", x, 0, 250, 1000, 5, M, 0, 4, 0);
        x.play(1, 0, 0);
        Check.figure("kept, and in the frame t + 1", x, 0, 250, 1000, 5, M, 1, 1, 0);
    }

    // "the figure is in the frame 0 of it"
    private static void cancelIntoTheFrameZero() {
        Sided x = Scene.with(3, 1, 30, 150, MID, 10);
        x.cancel(0, 0, true);
        x.begin(20);
        x.play(1, 10, 0);
        Scene.wait(x, 3);
        x.play(1, 10, 0);
        Check.figure("behind the frame 0", x, 0, 290, 1000, 5, M, 0, 1, 0);
        x.play(2, 10, 0);
        Check.figure("it has not touched in it yet", x, 0, 290, 1000, 5, M, 0, 3, 0);
        Check.same("once", x.of(1, 1), 990);
        x.play(1, 0, 0);
        Check.same("it touches in its own startup's frame", x.of(1, 1), 981);
    }

    private static void cancelByItsCost() {
        for (int cost = 5; cost <= 6; cost++) {
            Sided x = withCancel(MID);
            x.patch(1, 3, cost);
            x.begin(100);
            x.play(1, 10, 0);
            Scene.wait(x, 3);
            x.play(1, 11, 0);
            Check.same("5 of 5, not 6", x.of(0, 4), cost == 5 ? 1 : 0);
            Check.same("what is left", x.of(0, 2), cost == 5 ? 0 : 5);
        }
    }

    // ---- 3. "Those who STAND go: 4 forward with the input 1, 3 back with the input 2"

    private static void fourForwardThreeBack() {
        Sided x = withTwo();
        int[] left = {250, 254, 247, 250, 250};
        int[] right = {350, 346, 353, 350, 350};
        for (int input = 0; input <= 4; input++) {
            Sided y = withTwo();
            y.begin(100);
            y.play(1, input, 0);
            Scene.places("the figure 0 with " + input, y, left[input], 350);
            Sided z = withTwo();
            z.begin(100);
            z.play(1, 0, input);
            Scene.places("the figure 1 with " + input, z, 250, right[input]);
        }
        x.begin(100);
        x.play(1, 10, 11);
        Scene.places("a move", x, 250, 350);
    }

    private static void onlyThoseWhoStandGo() {
        for (int input = 1; input <= 2; input++) {
            Sided x = withTwo();
            x.begin(100);
            x.play(1, 10, 10);
            x.play(9, input, input);
            Scene.places("in a MOVE, input " + input, x, 250, 350);
            x.play(1, input, input);
            Scene.places("behind it", x, input == 1 ? 254 : 247, input == 1 ? 346 : 353);
            Sided y = Scene.withQuick(MID, 10);
            y.begin(100);
            y.play(1, 10, 0);
            y.play(1, 0, 0);
            y.play(19, 0, input);
            Scene.places("HIT, input " + input, y, 250, 360);
            y.play(1, 0, input);
            Scene.places("behind it", y, 250, input == 1 ? 356 : 363);
            Sided z = Scene.withQuick(MID, 10);
            z.begin(100);
            z.play(1, 10, 0);
            z.play(1, 0, 4);
            z.play(11, 0, input);
            Scene.places("BLOCKS, input " + input, z, 250, 360);
            z.play(1, 0, input);
            Scene.places("behind it", z, 250, input == 1 ? 356 : 363);
        }
    }

    private static void whoBeginsDoesNotGo() {
        Sided x = withTwo();
        x.begin(100);
        x.play(1, 10, 0);
        Scene.wait(x, 8);
        x.play(1, 11, 0);
        x.play(1, 1, 1);
        Check.same("the kept one begins with the input 1", x.of(0, 4), 1);
        Scene.places("so the figure 0 does not go", x, 250, 346);
    }

    /** From these places, with these inputs, to these. */
    private static void goes(int left, int right, int one, int two, int leftDue, int rightDue) {
        Sided x = new Sided();
        Scene.at(x, left, right);
        x.play(1, one, two);
        Scene.places(left + " and " + right + " with " + one + " and " + two, x, leftDue, rightDue);
    }

    // "if they are less than 20 apart, what is missing is made up: half of it, rounded down, by the figure 0 .."
    private static void lessThanTwentyApart() {
        goes(290, 310, 0, 0, 290, 310);
        goes(290, 314, 1, 0, 294, 314);
        goes(290, 313, 1, 0, 294, 314);
        goes(290, 312, 1, 0, 293, 313);
        goes(290, 311, 1, 0, 293, 313);
        goes(290, 310, 1, 0, 292, 312);
        goes(290, 313, 1, 1, 292, 312);
        goes(290, 312, 1, 1, 291, 311);
        goes(290, 311, 1, 1, 291, 311);
        goes(290, 310, 1, 1, 290, 310);
        goes(290, 310, 0, 1, 288, 308);
        goes(290, 311, 0, 1, 289, 309);
        goes(290, 310, 1, 2, 294, 314);
        goes(290, 311, 1, 2, 294, 314);
        goes(290, 310, 2, 1, 287, 307);
        goes(290, 310, 2, 2, 287, 313);
    }

    // "The stage goes from 0 ..", "Who is beyond the stage comes back to its end then"
    private static void theStageBeginsAtZero() {
        goes(4, 300, 2, 0, 1, 300);
        goes(3, 300, 2, 0, 0, 300);
        goes(2, 300, 2, 0, 0, 300);
        goes(1, 300, 2, 0, 0, 300);
        goes(0, 300, 2, 0, 0, 300);
        goes(0, 300, 1, 0, 4, 300);
    }

    // ".. to 600"
    private static void theStageEndsAtSixHundred() {
        goes(300, 596, 0, 2, 300, 599);
        goes(300, 597, 0, 2, 300, 600);
        goes(300, 598, 0, 2, 300, 600);
        goes(300, 599, 0, 2, 300, 600);
        goes(300, 600, 0, 2, 300, 600);
        goes(300, 600, 0, 1, 300, 596);
    }

    // "and the other one is 20 from that, if they would be nearer"
    private static void twentyFromTheEnd() {
        goes(0, 20, 0, 1, 0, 20);
        goes(0, 21, 0, 1, 0, 20);
        goes(0, 22, 0, 1, 0, 20);
        goes(0, 23, 0, 1, 0, 20);
        goes(0, 24, 0, 1, 0, 20);
        goes(0, 25, 0, 1, 0, 21);
        goes(1, 21, 0, 1, 0, 20);
        goes(2, 22, 0, 1, 0, 20);
        goes(3, 23, 0, 1, 1, 21);
        goes(580, 600, 1, 0, 580, 600);
        goes(579, 600, 1, 0, 580, 600);
        goes(578, 600, 1, 0, 580, 600);
        goes(577, 600, 1, 0, 580, 600);
        goes(576, 600, 1, 0, 580, 600);
        goes(575, 600, 1, 0, 579, 600);
        goes(579, 599, 1, 0, 580, 600);
        goes(578, 598, 1, 0, 580, 600);
        goes(577, 597, 1, 0, 579, 599);
    }

    private static void bothGoToTheEnd() {
        goes(2, 22, 2, 0, 0, 22);
        goes(2, 22, 2, 1, 0, 20);
        goes(1, 22, 2, 1, 0, 20);
        goes(1, 23, 2, 1, 0, 20);
        goes(1, 24, 2, 1, 0, 20);
        goes(1, 25, 2, 1, 0, 21);
        goes(578, 598, 0, 2, 578, 600);
        goes(578, 598, 1, 2, 580, 600);
        goes(578, 599, 1, 2, 580, 600);
        goes(577, 599, 1, 2, 580, 600);
        goes(576, 599, 1, 2, 580, 600);
        goes(575, 599, 1, 2, 579, 600);
    }
}
