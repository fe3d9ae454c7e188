/** The steps 4 and 5 of 'A frame': a test of its own for each sentence that names a boundary case. */
public final class EdgesOfHitsTest {
    private static final int S = DuelFrames.STANDS, M = DuelFrames.MOVE, H = DuelFrames.HIT, B = DuelFrames.BLOCKS;
    private static final int NONE = DuelFrames.NONE;
    private static final int HIGH = DuelFrames.HIGH, LOW = DuelFrames.LOW, MID = DuelFrames.MID;
    private static final int THROW = DuelFrames.THROW;

    public static void main(String[] args) {
        for (int figure = 0; figure < 2; figure++) {
            Sided.seeFrom(figure);
            all();
        }
        Sided.seeFrom(0);
        Check.end("EdgesOfHitsTest");
    }

    private static void all() {
        fromTheStartupOn();
        asManyAsAreActive();
        touchesOnce();
        atMostItsReachApart();
        reachBelowTheNearest();
        greatestReach();
        reachBehindTheGoing();
        throwsReachWhoStands();
        throwsReachWhoIsInAMove();
        throwsAndTheLastFrameOfHit();
        throwsAndTheLastFrameOfBlocks();
        bothThrowsDoNothingButPart();
        bothThrowsTouch();
        partedAtTheLeftEnd();
        partedAtTheRightEnd();
        throwsOfTwoFramesDoNotPart();
        throwsOfTwoReachesDoNotPart();
        throwsThatHaveTouchedDoNotPart();
        throwAndStrike();
        bothReachAheadOfThePush();
        bothReachOrNot();
        bothReachAtAnEnd();
        gainUpToAHundred();
        gainOfNothing();
        gainByEachTouch();
        blockedWithTheInput();
        blockedInTheVeryFrame();
        blockedByWhoStandsOrBlocks();
        notBlockedByWhoIsHit();
        notBlockedByWhoIsInAMove();
        aTenthRoundedDown();
        blocksForTheStun();
        countOfWhoIsHit();
        countOfWhoIsNot();
        lossByTheCount();
        lossByTheCountRoundedDown();
        lossInAMove();
        lossInAMoveRoundedDownTwice();
        stunByTheCount();
        stunInAMove();
        stunZeroAtLeast();
        pushAsFarAsTheStageGoes();
        pushByABlock();
        pushOfWhoReaches();
        pushOfNothing();
        behindTheLastFrame();
        oneFrameLess();
        noneLeft();
        countBehindTheLastFrame();
    }

    /** The hit or the block comes in the frame 2. */
    private static void touch(Sided x, int move, int guard) {
        x.play(1, 10 + move, 0);
        x.play(1, 0, guard);
    }

    // "A figure reaches the other one, if it is in a MOVE, in a frame from the startup on"
    private static void fromTheStartupOn() {
        for (int startup : new int[] {1, 2, 29, 30}) {
            Sided x = Scene.with(startup, 1, 5, 150, MID, 10);
            x.begin(100);
            x.play(1, 10, 0);
            Scene.wait(x, startup - 1);
            Check.figure("startup " + startup + ": not yet", x, 1, 350, 1000, 0, S, NONE, 0, 0);
            Check.same("behind the frames 0 and on", x.of(0, 5), startup);
            x.play(1, 0, 0);
            Check.figure("startup " + startup + ": now", x, 1, 360, 990, 0, H, NONE, 19, 1);
        }
    }

    /** The figure 1 comes into the reach in one frame of the round. */
    private static void active(int startup, int active, int frame, boolean hits) {
        Sided x = Scene.with(startup, active, 5, 40, MID, 10);
        x.begin(44);
        x.play(1, 10, frame == 1 ? 1 : 0);
        Scene.wait(x, frame - 2);
        if (frame > 1) {
            x.play(1, 0, 1);
        }
        Check.same("startup " + startup + ", active " + active + ", frame " + frame, x.of(1, 1), hits ? 990 : 1000);
    }

    // "as many as are active"
    private static void asManyAsAreActive() {
        for (int startup : new int[] {1, 7, 30}) {
            for (int active : new int[] {1, 2, 9, 10}) {
                active(startup, active, startup, false);
                active(startup, active, startup + 1, true);
                active(startup, active, startup + active, true);
                active(startup, active, startup + active + 1, false);
            }
        }
    }

    // "the MOVE has not touched yet"
    private static void touchesOnce() {
        for (int guard = 0; guard <= 4; guard += 4) {
            Sided x = Scene.with(1, 10, 1, 150, MID, 10);
            x.patch(0, 0, 0);
            x.patch(0, 1, 0);
            x.begin(20);
            x.play(1, 10, 0);
            x.play(10, 0, guard);
            Check.same("once in ten frames", x.of(1, 1), guard == 4 ? 999 : 990);
            Check.same("one push", x.of(1, 0), 320);
            Check.same("one gain", x.of(0, 2), 5);
            x.play(1, 0, guard);
            x.play(1, 10, 0);
            x.play(10, 0, guard);
            Check.same("a new MOVE once more", x.of(1, 1), guard == 4 ? 998 : 980);
        }
    }

    private static void reach(int reach, int apart, boolean hits) {
        Sided x = Scene.with(1, 1, 5, reach, MID, 10);
        x.begin(apart % 2 == 0 ? apart : apart - 3);
        x.play(1, 0, apart % 2 == 0 ? 0 : 2);
        Check.same("so far apart", x.of(1, 0) - x.of(0, 0), apart);
        touch(x, 0, 0);
        Check.same("reach " + reach + ", " + apart + " apart", x.of(1, 1), hits ? 990 : 1000);
        Sided y = Scene.with(1, 1, 5, reach, MID, 10);
        y.begin(apart % 2 == 0 ? apart : apart - 3);
        y.play(1, apart % 2 == 0 ? 0 : 2, 0);
        y.play(1, 0, 10);
        y.play(1, 0, 0);
        Check.same("the figure 1, reach " + reach + ", " + apart + " apart", y.of(0, 1), hits ? 990 : 1000);
    }

    // "and they are at most its reach apart"
    private static void atMostItsReachApart() {
        reach(40, 39, true);
        reach(40, 40, true);
        reach(40, 41, false);
        reach(40, 42, false);
        reach(41, 41, true);
    }

    private static void reachBelowTheNearest() {
        reach(1, 20, false);
        reach(19, 20, false);
        reach(20, 20, true);
        reach(21, 20, true);
    }

    private static void greatestReach() {
        reach(150, 149, true);
        reach(150, 150, true);
        reach(150, 151, false);
        reach(150, 300, false);
    }

    private static void reachBehindTheGoing() {
        Sided x = Scene.with(1, 1, 5, 40, MID, 10);
        x.begin(40);
        touch(x, 0, 2);
        Check.figure("who goes back in the frame is out of reach", x, 1, 323, 1000, 0, S, NONE, 0, 0);
        Sided y = Scene.with(1, 1, 5, 40, MID, 10);
        y.begin(44);
        touch(y, 0, 1);
        Check.figure("who comes in the frame is in reach", y, 1, 328, 990, 0, H, NONE, 19, 1);
    }

    // "but with a THROW only one who STANDS .."
    private static void throwsReachWhoStands() {
        for (int guard = 0; guard <= 4; guard++) {
            Sided x = Scene.withQuick(THROW, 100);
            x.begin(100);
            touch(x, 0, guard);
            Check.same("with the input " + guard, x.of(1, 1), 900);
            Check.same("HIT with the input " + guard, x.of(1, 3), H);
        }
    }

    // ".. or is in a MOVE"
    private static void throwsReachWhoIsInAMove() {
        for (int frames = 1; frames <= 3; frames++) {
            Sided x = Scene.withQuick(THROW, 100);
            x.move(1, 1, 1, 1, MID, 10);
            x.begin(100);
            x.play(1, frames == 1 ? 10 : 0, 11);
            if (frames > 1) {
                Scene.wait(x, frames - 2);
                x.play(1, 10, 0);
            }
            x.play(1, 0, 0);
            // The move is over behind its third frame: then who is thrown STANDS.
            Check.same("thrown in the frame " + (frames + 1), x.of(1, 1), frames <= 2 ? 880 : 900);
            Check.same("HIT in the frame " + (frames + 1), x.of(1, 5), frames <= 2 ? 23 : 19);
        }
    }

    /** The move 0 touches in the frame 2, the THROW is active in the frame 5, or in 5 and 6. */
    private static void throwAtTheEndOfAStun(int guard, int stun, int active, boolean isThrown) {
        Sided x = Scene.withQuick(MID, 100);
        x.move(1, active, 1, 150, THROW, 100);
        x.patch(0, guard == 4 ? 1 : 0, stun);
        x.begin(100);
        x.play(1, 10, 0);
        x.play(1, 0, guard);
        x.play(1, 0, 0);
        x.play(1, 11, 0);
        x.play(active, 0, 0);
        String what = (guard == 4 ? "BLOCKS for " : "HIT for ") + stun + ", active " + active;
        int life = guard == 4 ? 990 : 900;
        Check.same(what, x.of(1, 1), isThrown ? life - 100 : life);
        Check.same(what + ": the meter", x.of(0, 2), isThrown ? 10 : 5);
        Check.same(what + ": the count", x.of(1, 6), isThrown || guard == 0 && x.of(1, 3) == H ? 1 : 0);
    }

    private static void throwsAndTheLastFrameOfHit() {
        throwAtTheEndOfAStun(0, 3, 1, true);
        throwAtTheEndOfAStun(0, 4, 1, false);
        throwAtTheEndOfAStun(0, 20, 1, false);
        throwAtTheEndOfAStun(0, 4, 2, true);
        throwAtTheEndOfAStun(0, 5, 2, false);
    }

    private static void throwsAndTheLastFrameOfBlocks() {
        throwAtTheEndOfAStun(4, 3, 1, true);
        throwAtTheEndOfAStun(4, 4, 1, false);
        throwAtTheEndOfAStun(4, 12, 1, false);
        throwAtTheEndOfAStun(4, 4, 2, true);
        throwAtTheEndOfAStun(4, 5, 2, false);
    }

    // "Both THROWs reaching in one frame touch, and do nothing but part the figures: each goes 20 back"
    private static void bothThrowsDoNothingButPart() {
        Sided x = Scene.with(3, 2, 20, 30, THROW, 200);
        x.begin(30);
        x.play(1, 10, 10);
        x.play(2, 0, 0);
        Check.figure("ahead of it", x, 0, 285, 1000, 0, M, 0, 3, 0);
        x.play(1, 0, 0);
        Check.figure("parted", x, 0, 265, 1000, 0, M, 0, 4, 0);
        Check.figure("parted", x, 1, 335, 1000, 0, M, 0, 4, 0);
        x.play(1, 0, 0);
        Check.figure("once", x, 0, 265, 1000, 0, M, 0, 5, 0);
        Check.figure("once", x, 1, 335, 1000, 0, M, 0, 5, 0);
    }

    private static void bothThrowsTouch() {
        Sided x = Scene.with(1, 10, 5, 150, THROW, 10);
        x.move(1, 1, 5, 150, MID, 10);
        x.cancel(0, 1, true);
        x.begin(20);
        x.play(1, 10, 10);
        x.play(9, 0, 0);
        Scene.places("parted once in nine frames", x, 270, 330);
        Check.same("nobody is thrown behind it", x.of(0, 1) + x.of(1, 1), 2000);
        x.play(1, 11, 0);
        Check.same("it has touched: it may be cancelled", x.of(0, 4), 1);
    }

    private static void parts(int left, int right, int leftDue, int rightDue) {
        Sided x = Scene.withQuick(THROW, 10);
        Scene.at(x, left, right);
        x.play(1, 10, 10);
        x.play(1, 0, 0);
        Scene.places("parted from " + left + " and " + right, x, leftDue, rightDue);
        Check.same("no loss", x.of(0, 1) + x.of(1, 1), 2000);
    }

    // "each goes 20 back, as far as the stage goes"
    private static void partedAtTheLeftEnd() {
        parts(0, 20, 0, 40);
        parts(1, 21, 0, 41);
        parts(19, 50, 0, 70);
        parts(20, 50, 0, 70);
        parts(21, 50, 1, 70);
    }

    private static void partedAtTheRightEnd() {
        parts(580, 600, 560, 600);
        parts(579, 599, 559, 600);
        parts(550, 581, 530, 600);
        parts(550, 580, 530, 600);
        parts(550, 579, 530, 599);
    }

    // "in one frame"
    private static void throwsOfTwoFramesDoNotPart() {
        Sided x = Scene.with(3, 5, 20, 150, THROW, 100);
        x.move(4, 5, 20, 150, THROW, 100);
        x.begin(20);
        x.play(1, 10, 11);
        x.play(3, 0, 0);
        Check.figure("the first one throws", x, 1, 320, 880, 0, H, NONE, 23, 1);
        x.play(5, 0, 0);
        Check.same("the later one does not", x.of(0, 1), 1000);
        Sided y = Scene.with(3, 1, 20, 150, THROW, 100);
        y.move(4, 1, 20, 150, THROW, 100);
        y.begin(20);
        y.play(1, 11, 10);
        y.play(3, 0, 0);
        Check.figure("the figure 1 as the first one", y, 0, 280, 880, 0, H, NONE, 23, 1);
    }

    // "Both THROWs reaching"
    private static void throwsOfTwoReachesDoNotPart() {
        Sided x = Scene.with(3, 1, 20, 40, THROW, 100);
        x.move(3, 1, 20, 39, THROW, 100);
        x.begin(40);
        x.play(1, 10, 11);
        x.play(3, 0, 0);
        Check.figure("who is not reached", x, 0, 280, 1000, 5, M, 0, 4, 0);
        Check.figure("who does not reach is thrown", x, 1, 330, 880, 0, H, NONE, 23, 1);
        Sided y = Scene.with(3, 1, 20, 40, THROW, 100);
        y.move(3, 1, 20, 39, THROW, 100);
        y.begin(40);
        y.play(1, 11, 10);
        y.play(3, 0, 0);
        Check.figure("the figure 0, too", y, 0, 270, 880, 0, H, NONE, 23, 1);
    }

    /** The figure 0 has thrown in vain: the parting was its touch, and it is thrown in its later frames. */
    private static void throwsThatHaveTouchedDoNotPart() {
        Sided x = Scene.with(1, 10, 40, 150, THROW, 100);
        x.move(1, 1, 1, 150, THROW, 100);
        x.begin(20);
        x.play(1, 10, 11);
        x.play(2, 0, 0);
        Scene.places("parted", x, 270, 330);
        x.play(1, 0, 11);
        x.play(1, 0, 0);
        Check.figure("thrown", x, 0, 260, 880, 0, H, NONE, 23, 1);
        Check.figure("not parted", x, 1, 330, 1000, 5, M, 1, 2, 0);
    }

    // "Otherwise": one THROW and another kind, reaching in one frame
    private static void throwAndStrike() {
        for (int kind : new int[] {HIGH, LOW, MID}) {
            Sided x = Scene.with(3, 1, 20, 40, THROW, 100);
            x.move(3, 1, 20, 40, kind, 50);
            x.begin(40);
            x.play(1, 10, 11);
            x.play(3, 0, 0);
            Check.figure("struck", x, 0, 270, 940, 5, H, NONE, 23, 1);
            Check.figure("thrown", x, 1, 330, 880, 5, H, NONE, 23, 1);
            Sided y = Scene.with(3, 1, 20, 40, THROW, 100);
            y.move(3, 1, 20, 40, kind, 50);
            y.begin(40);
            y.play(1, 11, 10);
            y.play(3, 0, 0);
            Check.figure("thrown", y, 0, 270, 880, 5, H, NONE, 23, 1);
            Check.figure("struck", y, 1, 330, 940, 5, H, NONE, 23, 1);
        }
    }

    // "by what both did, and their counts, ahead of all hits of this frame"
    private static void bothReachAheadOfThePush() {
        Sided x = Scene.with(3, 1, 20, 40, MID, 100);
        x.patch(0, 2, 60);
        x.begin(40);
        x.play(1, 10, 10);
        x.play(3, 0, 0);
        Check.figure("both hit in a MOVE", x, 0, 220, 880, 5, H, NONE, 23, 1);
        Check.figure("both hit in a MOVE", x, 1, 380, 880, 5, H, NONE, 23, 1);
    }

    private static void bothReachOrNot() {
        for (int reach = 39; reach <= 40; reach++) {
            Sided x = Scene.with(3, 1, 20, 40, MID, 100);
            x.move(3, 1, 20, reach, MID, 100);
            x.begin(40);
            x.play(1, 10, 11);
            x.play(3, 0, 0);
            Check.same("reach " + reach + " of the figure 1", x.of(0, 1), reach == 40 ? 880 : 1000);
            Check.same("that of the figure 0", x.of(1, 1), 880);
            Sided y = Scene.with(3, 1, 20, 40, MID, 100);
            y.move(3, 1, 20, reach, MID, 100);
            y.begin(40);
            y.play(1, 11, 10);
            y.play(3, 0, 0);
            Check.same("reach " + reach + " of the figure 0", y.of(1, 1), reach == 40 ? 880 : 1000);
            Check.same("that of the figure 1", y.of(0, 1), 880);
        }
    }

    // "but by places as they are by then, for each that reaches, the figure 0 first"
    private static void bothReachAtAnEnd() {
        // The hit of the figure 0 pushes the figure 1 by 10; what is missing behind the figure 0 pushes it once more.
        Sided x = Scene.with(3, 1, 20, 150, MID, 100);
        Scene.at(x, 4, 40);
        x.play(1, 10, 10);
        x.play(3, 0, 0);
        Scene.places("at the left end", x, 0, 56);
        // 4 are missing behind the figure 1, so the figure 0 goes back by 4, and then by 10 for the hit of the other.
        Sided y = Scene.with(3, 1, 20, 150, MID, 100);
        Scene.at(y, 560, 594);
        y.play(1, 10, 10);
        y.play(3, 0, 0);
        Scene.places("at the right end", y, 546, 600);
        // The push of the figure 0 takes the figure 1 to the end: what is missing then leaves it there.
        Sided z = Scene.with(3, 1, 20, 150, MID, 100);
        z.move(3, 1, 20, 150, MID, 100);
        z.patch(0, 2, 60);
        Scene.at(z, 560, 590);
        z.play(1, 10, 11);
        z.play(3, 0, 0);
        Scene.places("50 are missing first", z, 500, 600);
    }

    /** The meter of the figure 0 behind blocked touches by these gains. */
    private static void gains(int due, int... gains) {
        Sided x = new Sided();
        for (int i = 0; i < gains.length; i++) {
            x.move(1, 1, 1, 150, MID, 1);
            x.patch(i, 4, gains[i]);
            x.patch(i, 2, 0);
        }
        x.begin(20);
        for (int i = 0; i < gains.length; i++) {
            Scene.quick(x, i, 0);
        }
        Check.same("the meter", x.of(0, 2), due);
        Check.same("that of the other one", x.of(1, 2), 0);
    }

    // "the meter of who reaches is more by the gain, up to 100"
    private static void gainUpToAHundred() {
        gains(99, 60, 34, 5);
        gains(100, 60, 35, 5);
        gains(100, 60, 36, 5);
        gains(100, 60, 60);
        gains(100, 60, 60, 60);
        gains(100, 60, 39, 1);
        gains(100, 60, 40, 1);
    }

    private static void gainOfNothing() {
        gains(0, 0);
        gains(60, 60, 0);
        gains(100, 60, 60, 0);
    }

    private static void gainByEachTouch() {
        Sided x = Scene.withQuick(MID, 1);
        x.begin(20);
        touch(x, 0, 4);
        Check.same("by a block", x.of(0, 2), 5);
        Sided y = Scene.withQuick(THROW, 1);
        y.begin(20);
        touch(y, 0, 0);
        Check.same("by a THROW", y.of(0, 2), 5);
        Sided z = Scene.withQuick(MID, 1);
        z.begin(152);
        touch(z, 0, 0);
        Check.same("by none", z.of(0, 2), 0);
    }

    // "It is blocked, .. with the input 2 for HIGH and MID, or 4 for LOW and MID."
    private static void blockedWithTheInput() {
        boolean[][] due = {
            {false, false, true, false, false},
            {false, false, false, false, true},
            {false, false, true, false, true},
            {false, false, false, false, false},
        };
        for (int kind = HIGH; kind <= THROW; kind++) {
            for (int input = 0; input <= 4; input++) {
                Sided x = Scene.withQuick(kind, 100);
                x.begin(100);
                touch(x, 0, input);
                String what = "kind " + kind + ", input " + input;
                Check.same(what, x.of(1, 3), due[kind][input] ? B : H);
                Check.same(what + ": the life", x.of(1, 1), due[kind][input] ? 990 : 900);
                Check.same(what + ": the count", x.of(1, 6), due[kind][input] ? 0 : 1);
            }
        }
    }

    private static void blockedInTheVeryFrame() {
        Sided x = Scene.with(5, 1, 5, 150, MID, 100);
        x.begin(100);
        x.play(1, 10, 4);
        x.play(4, 0, 4);
        x.play(1, 0, 0);
        Check.same("the inputs ahead of it are no guard", x.of(1, 3), H);
        Sided y = Scene.with(5, 1, 5, 150, MID, 100);
        y.begin(100);
        y.play(1, 10, 0);
        y.play(4, 0, 0);
        y.play(1, 0, 4);
        Check.same("that of the frame is", y.of(1, 3), B);
    }

    // "if the other one STANDS or BLOCKS"
    private static void blockedByWhoStandsOrBlocks() {
        Sided x = Scene.withQuick(MID, 100);
        x.patch(0, 1, 60);
        x.begin(100);
        touch(x, 0, 4);
        Check.figure("who STANDS", x, 1, 360, 990, 0, B, NONE, 59, 0);
        x.play(1, 0, 0);
        touch(x, 0, 4);
        Check.figure("who BLOCKS, low", x, 1, 370, 980, 0, B, NONE, 59, 0);
        x.play(1, 0, 0);
        touch(x, 0, 2);
        Check.figure("who BLOCKS, high", x, 1, 380, 970, 0, B, NONE, 59, 0);
        x.play(1, 0, 0);
        touch(x, 0, 3);
        Check.figure("who BLOCKS without a guard is HIT", x, 1, 390, 870, 0, H, NONE, 19, 1);
        // Who STANDS with the input of a move that can't begin has no guard.
        Sided y = Scene.withQuick(MID, 100);
        y.move(1, 1, 1, 1, MID, 1);
        y.patch(1, 3, 1);
        y.begin(100);
        y.play(1, 10, 11);
        y.play(1, 0, 11);
        Check.figure("a move that is too dear is no guard", y, 1, 360, 900, 0, H, NONE, 19, 1);
    }

    private static void notBlockedByWhoIsHit() {
        Sided x = Scene.withQuick(MID, 100);
        // The second one comes in the frame 5: for a stun of 4 that is the last frame of HIT.
        x.patch(0, 0, 4);
        x.begin(100);
        touch(x, 0, 0);
        x.play(1, 0, 4);
        touch(x, 0, 4);
        Check.same("in its last frame of HIT", x.of(1, 1), 1000 - 100 - 90);
        Sided y = Scene.withQuick(MID, 100);
        y.patch(0, 0, 3);
        y.begin(100);
        touch(y, 0, 0);
        y.play(1, 0, 4);
        touch(y, 0, 4);
        Check.same("a frame behind it", y.of(1, 1), 1000 - 100 - 10);
    }

    private static void notBlockedByWhoIsInAMove() {
        for (int input = 2; input <= 4; input += 2) {
            Sided x = Scene.withQuick(MID, 100);
            x.move(1, 1, 1, 1, MID, 1);
            x.begin(100);
            x.play(1, 0, 11);
            x.play(1, 10, input);
            x.play(1, 0, input);
            Check.figure("in its last frame", x, 1, 360, 880, 0, H, NONE, 23, 1);
            Sided y = Scene.withQuick(MID, 100);
            y.move(1, 1, 1, 1, MID, 1);
            y.begin(100);
            y.play(1, 0, 11);
            y.play(1, 0, input);
            y.play(1, 10, input);
            y.play(1, 0, input);
            Check.figure("a frame behind it", y, 1, input == 2 ? 363 : 360, 990, 0, B, NONE, 11, 0);
        }
    }

    // "Then the other one loses a tenth of the damage, rounded down"
    private static void aTenthRoundedDown() {
        for (int damage : new int[] {1, 9, 10, 11, 19, 20, 99, 100, 199, 200}) {
            Sided x = Scene.withQuick(MID, damage);
            x.begin(100);
            touch(x, 0, 4);
            Check.figure("a tenth of " + damage, x, 1, 360, 1000 - damage / 10, 0, B, NONE, 11, 0);
        }
    }

    // "and BLOCKS for the block stun"
    private static void blocksForTheStun() {
        for (int stun : new int[] {0, 1, 2, 3, 59, 60}) {
            Sided x = Scene.withQuick(MID, 10);
            x.patch(0, 1, stun);
            x.begin(100);
            touch(x, 0, 4);
            Check.figure("block stun " + stun, x, 1, 360, 999, 0, stun > 1 ? B : S, NONE, Math.max(0, stun - 1), 0);
        }
    }

    // "Otherwise it is a hit: the count is 1 more if the other one is HIT"
    private static void countOfWhoIsHit() {
        Sided x = Scene.withQuick(MID, 1);
        x.patch(0, 0, 60);
        x.patch(0, 2, 0);
        x.begin(100);
        for (int count = 1; count <= 20; count++) {
            touch(x, 0, count == 1 ? 0 : 2);
            Check.same("HIT", x.of(1, 3), H);
            Check.same("the count", x.of(1, 6), count);
            x.play(1, 0, 0);
        }
    }

    // "otherwise 1"
    private static void countOfWhoIsNot() {
        Sided x = Scene.withQuick(MID, 10);
        x.move(1, 1, 40, 1, MID, 10);
        x.begin(100);
        touch(x, 0, 0);
        Check.same("who STANDS", x.of(1, 6), 1);
        Scene.wait(x, 19);
        touch(x, 0, 0);
        Check.figure("who STANDS since a frame", x, 1, 370, 980, 0, H, NONE, 19, 1);
        Scene.wait(x, 20);
        touch(x, 0, 4);
        x.play(1, 0, 0);
        touch(x, 0, 0);
        Check.figure("who BLOCKS", x, 1, 390, 969, 0, H, NONE, 19, 1);
        Scene.wait(x, 20);
        x.play(1, 10, 11);
        x.play(1, 0, 0);
        Check.figure("who is in a MOVE", x, 1, 400, 957, 0, H, NONE, 23, 1);
    }

    /** A row of hits of one damage, with the losses that are due. */
    private static void row(int damage, int... due) {
        Sided x = Scene.withQuick(MID, damage);
        x.patch(0, 0, 60);
        x.patch(0, 2, 0);
        x.begin(100);
        int life = 1000;
        for (int i = 0; i < due.length; i++) {
            touch(x, 0, 0);
            life -= due[i];
            Check.same("damage " + damage + ", hit " + (i + 1), x.of(1, 1), life);
            if (life > 0) {
                x.play(1, 0, 0);
            }
        }
    }

    // "It loses the damage times (11 less the count, but 1 at least), divided by 10"
    private static void lossByTheCount() {
        row(10, 10, 9, 8, 7, 6, 5, 4, 3, 2, 1, 1, 1, 1);
        row(100, 100, 90, 80, 70, 60, 50, 40, 30, 20, 10, 10, 10, 10);
        row(200, 200, 180, 160, 140, 120, 100, 80, 60);
    }

    // ".. rounded down"
    private static void lossByTheCountRoundedDown() {
        row(1, 1, 0, 0, 0, 0, 0, 0, 0, 0, 0, 0);
        row(9, 9, 8, 7, 6, 5, 4, 3, 2, 1, 0, 0);
        row(11, 11, 9, 8, 7, 6, 5, 4, 3, 2, 1, 1, 1);
        row(19, 19, 17, 15, 13, 11, 9, 7, 5, 3, 1, 1, 1);
    }

    private static void lossInAMove(int damage, int due) {
        Sided x = Scene.withQuick(MID, damage);
        x.move(1, 1, 40, 1, MID, 10);
        x.begin(100);
        x.play(1, 10, 11);
        x.play(1, 0, 0);
        Check.figure("damage " + damage, x, 1, 360, 1000 - due, 0, H, NONE, 23, 1);
    }

    // "if it was in a MOVE, that times 6, divided by 5"
    private static void lossInAMove() {
        lossInAMove(5, 6);
        lossInAMove(10, 12);
        lossInAMove(100, 120);
        lossInAMove(200, 240);
        Sided x = Scene.withQuick(MID, 100);
        x.move(1, 1, 1, 1, MID, 10);
        x.begin(100);
        x.play(1, 0, 11);
        x.play(1, 0, 0);
        x.play(1, 10, 0);
        x.play(1, 0, 0);
        Check.same("not a frame behind its last one", x.of(1, 1), 900);
    }

    // ".. rounded down"
    private static void lossInAMoveRoundedDownTwice() {
        lossInAMove(1, 1);
        lossInAMove(4, 4);
        lossInAMove(6, 7);
        lossInAMove(9, 10);
        lossInAMove(11, 13);
        lossInAMove(199, 238);
    }

    // "It is HIT for the hit stun, less 2 for each hit of the count but the first one"
    private static void stunByTheCount() {
        Sided x = Scene.withQuick(MID, 1);
        x.patch(0, 0, 60);
        x.patch(0, 2, 0);
        x.begin(100);
        for (int count = 1; count <= 28; count++) {
            touch(x, 0, 0);
            Check.same("the hit " + count, x.of(1, 5), 60 - 2 * (count - 1) - 1);
            x.play(1, 0, 0);
        }
    }

    // "and 4 more if it was in a MOVE"
    private static void stunInAMove() {
        for (int stun : new int[] {0, 1, 20, 59, 60}) {
            Sided x = Scene.withQuick(MID, 10);
            x.move(1, 1, 40, 1, MID, 10);
            x.patch(0, 0, stun);
            x.begin(100);
            x.play(1, 10, 11);
            x.play(1, 0, 0);
            Check.figure("hit stun " + stun, x, 1, 360, 988, 0, H, NONE, stun + 4 - 1, 1);
        }
    }

    /** The second or third hit of a row, by a move of its own with this hit stun. */
    private static void lateStun(int hitsAhead, int stun, int left) {
        Sided x = Scene.withQuick(MID, 1);
        x.move(1, 1, 1, 150, MID, 10);
        x.patch(1, 0, stun);
        x.begin(100);
        for (int i = 0; i < hitsAhead; i++) {
            Scene.quick(x, 0, 0);
        }
        touch(x, 1, 0);
        String what = "hit stun " + stun + " behind " + hitsAhead;
        Check.same(what, x.of(1, 3), left > 0 ? H : S);
        Check.same(what + ": frames", x.of(1, 5), left);
        Check.same(what + ": count", x.of(1, 6), left > 0 ? hitsAhead + 1 : 0);
    }

    // "0 at least"
    private static void stunZeroAtLeast() {
        lateStun(0, 0, 0);
        lateStun(0, 1, 0);
        lateStun(0, 2, 1);
        lateStun(1, 0, 0);
        lateStun(1, 1, 0);
        lateStun(1, 2, 0);
        lateStun(1, 3, 0);
        lateStun(1, 4, 1);
        lateStun(2, 0, 0);
        lateStun(2, 4, 0);
        lateStun(2, 5, 0);
        lateStun(2, 6, 1);
    }

    private static void push(int left, int right, int push, int leftDue, int rightDue) {
        for (int guard = 0; guard <= 4; guard += 4) {
            Sided x = Scene.withQuick(MID, 10);
            x.patch(0, 2, push);
            Scene.at(x, left, right);
            touch(x, 0, guard);
            Scene.places("push " + push + " from " + left + " and " + right, x, leftDue, rightDue);
            Sided y = Scene.withQuick(MID, 10);
            y.patch(0, 2, push);
            Scene.at(y, 600 - right, 600 - left);
            y.play(1, guard, 10);
            y.play(1, guard, 0);
            Scene.places("the figure 1 by " + push, y, 600 - rightDue, 600 - leftDue);
        }
    }

    // "The other one goes back by the push, as far as the stage goes"
    private static void pushAsFarAsTheStageGoes() {
        push(290, 310, 10, 290, 320);
        push(290, 310, 60, 290, 370);
        push(500, 589, 10, 500, 599);
        push(500, 590, 10, 500, 600);
        push(500, 540, 60, 500, 600);
        push(500, 539, 60, 500, 599);
    }

    private static void pushByABlock() {
        Sided x = Scene.withQuick(MID, 10);
        x.begin(100);
        touch(x, 0, 4);
        Scene.places("a block pushes by as much", x, 250, 360);
        Sided y = Scene.withQuick(MID, 10);
        y.begin(100);
        touch(y, 0, 2);
        Scene.places("from where it has gone", y, 250, 363);
    }

    // "by what is missing then, who reaches goes back"
    private static void pushOfWhoReaches() {
        push(500, 591, 10, 499, 600);
        push(500, 600, 10, 490, 600);
        push(580, 600, 10, 570, 600);
        push(500, 541, 60, 499, 600);
        push(580, 600, 60, 520, 600);
        push(579, 599, 1, 579, 600);
        push(580, 600, 1, 579, 600);
    }

    private static void pushOfNothing() {
        push(290, 310, 0, 290, 310);
        push(580, 600, 0, 580, 600);
        push(579, 599, 0, 579, 599);
    }

    // "behind the last one of startup, active ones and recovery it STANDS"
    private static void behindTheLastFrame() {
        int[][] facts = {{1, 1, 1}, {30, 10, 40}, {1, 10, 1}, {30, 1, 1}, {1, 1, 40}};
        for (int[] f : facts) {
            Sided x = Scene.with(f[0], f[1], f[2], 1, MID, 10);
            int frames = f[0] + f[1] + f[2];
            x.begin(100);
            x.play(1, 10, 0);
            Scene.wait(x, frames - 2);
            Check.figure("ahead of the last one of " + frames, x, 0, 250, 1000, 0, M, 0, frames - 1, 0);
            x.play(1, 0, 0);
            Check.figure("behind it", x, 0, 250, 1000, 0, S, NONE, 0, 0);
        }
    }

    // "Who is HIT or BLOCKS, also since this frame, has one frame less"
    private static void oneFrameLess() {
        Sided x = Scene.withQuick(MID, 10);
        x.begin(100);
        touch(x, 0, 0);
        Check.same("HIT for 20 since this frame", x.of(1, 5), 19);
        x.play(1, 0, 0);
        Check.same("since the frame ahead", x.of(1, 5), 18);
        Sided y = Scene.withQuick(MID, 10);
        y.begin(100);
        touch(y, 0, 4);
        Check.same("BLOCKS for 12 since this frame", y.of(1, 5), 11);
        y.play(1, 0, 0);
        Check.same("since the frame ahead", y.of(1, 5), 10);
    }

    // "with none left it STANDS"
    private static void noneLeft() {
        for (int guard = 0; guard <= 4; guard += 4) {
            int does = guard == 4 ? B : H;
            for (int stun = 0; stun <= 3; stun++) {
                Sided x = Scene.withQuick(MID, 10);
                x.patch(0, guard == 4 ? 1 : 0, stun);
                x.begin(100);
                touch(x, 0, guard);
                for (int left = stun - 1; left > 0; left--) {
                    Check.same("still, for " + left, x.of(1, 3), does);
                    x.play(1, 0, 0);
                }
                Check.figure("none left of " + stun, x, 1, 360, guard == 4 ? 999 : 990, 0, S, NONE, 0, 0);
                x.play(1, 0, 1);
                Check.same("it goes in the next frame", x.of(1, 0), 356);
            }
        }
    }

    // "The count of who is not HIT is 0."
    private static void countBehindTheLastFrame() {
        Sided x = Scene.withQuick(MID, 10);
        x.begin(100);
        Scene.quick(x, 0, 0);
        touch(x, 0, 0);
        Scene.wait(x, 16);
        Check.figure("in the last frame", x, 1, 370, 981, 0, H, NONE, 1, 2);
        x.play(1, 0, 0);
        Check.figure("behind it", x, 1, 370, 981, 0, S, NONE, 0, 0);
        Check.same("of who hits", x.of(0, 6), 0);
    }
}
