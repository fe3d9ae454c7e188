/**
 * Promises 5, 6, 7, 9 and 10, the chapter 'Figures' and the step 6 of a frame: a test of its own for each sentence
 * that names a boundary case.
 */
public final class EdgesOfRoundsTest {
    private static final int S = DuelFrames.STANDS, M = DuelFrames.MOVE, H = DuelFrames.HIT, B = DuelFrames.BLOCKS;
    private static final int NONE = DuelFrames.NONE;
    private static final int FAR_BELOW = Integer.MIN_VALUE, FAR_ABOVE = Integer.MAX_VALUE;

    public static void main(String[] args) {
        for (int figure = 0; figure < 2; figure++) {
            Sided.seeFrom(figure);
            all();
        }
        Sided.seeFrom(0);
        fiveHundredAndTwelveCalls();
        Check.end("EdgesOfRoundsTest");
    }

    private static void all() {
        apart();
        apartIsEven();
        inTheMidstOfTheStage();
        noBeginInARound();
        howManyRoundsWereBegun();
        aNewSetIfTheOneAheadIsWon();
        lifeAsARoundBegins();
        meterAsASetBegins();
        meterThroughRounds();
        allElseIsNewInARound();
        playFrames();
        inputs();
        inputsOfMoves();
        playReturnsHowManyFrames();
        playUntilTheRoundIsOver();
        noPlayWithoutARound();
        firstLineOfPlay();
        ofFigure();
        ofWhat();
        ofAheadOfTheFirstRound();
        ofTheFrameOfAMove();
        ofTheFramesOfStuns();
        ofTheMove();
        ofRoundsWon();
        goesOn();
        overWithTheSixHundredthFrame();
        overWithALifeOfNothing();
        overWithALifeBelowNothing();
        overWithBothLives();
        moreLifeOfTwoBelowNothing();
        moreLifeByOne();
        nobodyWithTheSame();
        twoRoundsWinASet();
        winnerOfTheLatestSet();
    }

    // ---- begin

    // "apart: 20 to 300"
    private static void apart() {
        Sided x = new Sided();
        for (int apart : new int[] {18, 302, 0, -20, FAR_BELOW, FAR_ABOVE - 1}) {
            Check.outOfRange("apart " + apart, () -> x.begin(apart));
            Check.no("no round by " + apart, x.goesOn());
            Check.outOfBounds("no frame by " + apart, () -> x.again(0, 0, 0));
        }
        Check.same("20 is the first round", x.begin(20), 1);
        Check.same("300 is, too", new Sided().begin(300), 1);
    }

    // ".. even"
    private static void apartIsEven() {
        for (int apart = 19; apart <= 301; apart++) {
            Sided x = new Sided();
            int by = apart;
            if (apart % 2 != 0) {
                Check.outOfRange("apart " + apart, () -> x.begin(by));
            } else {
                Check.same("apart " + apart, x.begin(apart), 1);
                Check.same("they are so far apart", x.of(1, 0) - x.of(0, 0), apart);
            }
        }
    }

    // "with the figures in the midst of the stage"
    private static void inTheMidstOfTheStage() {
        for (int apart : new int[] {20, 22, 298, 300}) {
            Sided x = new Sided();
            x.begin(apart);
            Scene.places("apart " + apart, x, 300 - apart / 2, 300 + apart / 2);
        }
    }

    // begin "Throws IllegalStateException if a round goes on"
    private static void noBeginInARound() {
        Sided x = new Sided();
        x.begin(20);
        Check.notNow("at once", () -> x.begin(20));
        Scene.wait(x, 599);
        Check.notNow("ahead of the last frame", () -> x.begin(300));
        Check.outOfRange("a wrong argument decides", () -> x.begin(18));
        Check.outOfRange("an odd one decides", () -> x.begin(21));
        x.play(1, 0, 0);
        Check.same("behind the last frame", x.begin(20), 2);
    }

    // "Returns how many rounds were begun in the set, this one with them."
    private static void howManyRoundsWereBegun() {
        Sided x = new Sided();
        for (int round = 1; round <= 20; round++) {
            Check.same("round " + round + ", nobody has won", x.begin(20), round);
            Scene.waitOut(x);
        }
    }

    /** A round that the figure wins by five hits of 200. */
    private static void win(Sided x, int figure) {
        x.begin(20);
        for (int i = 0; i < 60 && x.goesOn(); i++) {
            x.play(1, figure == 0 ? 10 : 0, figure == 1 ? 10 : 0);
        }
        Check.no("it is won", x.goesOn());
    }

    // "a new set, if the one ahead is won, or there was none"
    private static void aNewSetIfTheOneAheadIsWon() {
        Sided x = Scene.withQuick(DuelFrames.MID, 200);
        win(x, 0);
        win(x, 1);
        Check.same("one each: the set goes on", x.begin(20), 3);
        Scene.waitOut(x);
        win(x, 1);
        Check.same("won", x.winner(), 1);
        Check.same("a new one", x.begin(20), 1);
        Scene.waitOut(x);
        Check.same("that goes on", x.begin(20), 2);
    }

    // "life, 1000 as a round begins"
    private static void lifeAsARoundBegins() {
        Sided x = Scene.withQuick(DuelFrames.MID, 200);
        x.begin(20);
        Check.same("in the first round", x.of(0, 1) + x.of(1, 1), 2000);
        Scene.waitOut(x);
        win(x, 0);
        Check.yes("less behind it", x.of(1, 1) <= 0);
        x.begin(20);
        Check.same("the figure 0 in a later round", x.of(0, 1), 1000);
        Check.same("the figure 1 in a later round", x.of(1, 1), 1000);
    }

    // "a meter, .. 0 as the first round of a set begins"
    private static void meterAsASetBegins() {
        Sided x = Scene.withQuick(DuelFrames.MID, 200);
        x.begin(20);
        Check.same("the figure 0 in the first set", x.of(0, 2), 0);
        Check.same("the figure 1 in the first set", x.of(1, 2), 0);
        Scene.waitOut(x);
        win(x, 0);
        win(x, 1);
        Check.yes("both have some in its last round", x.of(0, 2) > 0 && x.of(1, 2) > 0);
        win(x, 1);
        Check.same("the set is won", x.winner(), 1);
        Check.yes("the meters are still told", x.of(0, 2) > 0 && x.of(1, 2) > 0);
        x.begin(20);
        Check.same("the figure 0 in a new set", x.of(0, 2), 0);
        Check.same("the figure 1 in a new set", x.of(1, 2), 0);
    }

    // "kept through rounds"
    private static void meterThroughRounds() {
        Sided x = Scene.withQuick(DuelFrames.MID, 1);
        x.patch(0, 4, 60);
        x.begin(20);
        Scene.quick(x, 0, 0);
        x.play(1, 0, 0);
        Scene.waitOut(x);
        Check.same("60 behind the first round", x.of(0, 2), 60);
        x.begin(20);
        Check.same("60 as the second begins", x.of(0, 2), 60);
        Check.same("none for the other one", x.of(1, 2), 0);
        Scene.wait(x, 30);
        x.play(1, 0, 10);
        Scene.waitOut(x);
        x.begin(20);
        Check.same("60 as the third begins", x.of(0, 2), 60);
        Check.same("60 for the other one, too", x.of(1, 2), 60);
    }

    // "Begins a round": whatever the figures did as the one ahead was over
    private static void allElseIsNewInARound() {
        Sided x = Scene.with(1, 10, 40, 150, DuelFrames.MID, 200);
        x.patch(0, 0, 60);
        x.patch(0, 2, 0);
        x.begin(20);
        for (int i = 0; i < 10 && x.goesOn(); i++) {
            x.play(60, 10, 0);
        }
        Check.same("over in a MOVE", x.of(0, 3), M);
        Check.same("over as one is HIT", x.of(1, 3), H);
        x.begin(100);
        int meter = x.of(0, 2);
        Check.figure("new", x, 0, 250, 1000, meter, S, NONE, 0, 0);
        Check.figure("new", x, 1, 350, 1000, 0, S, NONE, 0, 0);
        x.play(1, 0, 1);
        Check.figure("the input that was kept is dropped", x, 0, 250, 1000, meter, S, NONE, 0, 0);
        Check.figure("who was HIT goes", x, 1, 346, 1000, 0, S, NONE, 0, 0);
    }

    // ---- play

    // "frames: 1 to 60"
    private static void playFrames() {
        Sided x = new Sided();
        x.begin(20);
        for (int frames : new int[] {0, 61, -1, FAR_BELOW, FAR_ABOVE}) {
            Check.outOfRange("frames " + frames, () -> x.play(frames, 0, 0));
            Check.outOfBounds("none was played", () -> x.again(1, 0, 0));
        }
        Check.same("1", x.play(1, 0, 0), 1);
        Check.same("60", x.play(60, 0, 0), 61);
        Check.same("59", x.play(59, 0, 0), 120);
    }

    // "An input is 0 nothing, 1 forward, 2 back, 3 low, 4 back and low, or 10 and more"
    private static void inputs() {
        Sided x = Scene.withQuick(DuelFrames.MID, 1);
        x.begin(300);
        for (int input : new int[] {-1, 5, 6, 7, 8, 9, FAR_BELOW, FAR_BELOW + 10}) {
            Check.outOfRange("input " + input + " of the figure 0", () -> x.play(1, input, 0));
            Check.outOfRange("input " + input + " of the figure 1", () -> x.play(1, 0, input));
            Check.outOfRange("input " + input + " of both", () -> x.play(1, input, input));
        }
        for (int input = 0; input <= 4; input++) {
            Check.same("input " + input, x.play(1, input, input), input + 1);
        }
        Check.same("input 10", x.play(1, 10, 10), 6);
    }

    // ".. the move of which the number is 10 less", "or of a move that there is not"
    private static void inputsOfMoves() {
        for (int count = 0; count <= 6; count++) {
            Sided x = new Sided();
            for (int i = 0; i < count; i++) {
                x.move(1, 1, 1, 1, DuelFrames.MID, 1);
            }
            x.begin(300);
            for (int input : new int[] {10 + count, 11 + count, FAR_ABOVE, FAR_ABOVE - 10}) {
                Check.outOfRange(count + " moves: " + input, () -> x.play(1, input, 0));
                Check.outOfRange(count + " moves: " + input, () -> x.play(1, 0, input));
            }
            if (count > 0) {
                Check.same(count + " moves: the last one", x.play(1, 9 + count, 9 + count), 1);
                Check.same("the figure 0 is in it", x.of(0, 4), count - 1);
                Check.same("the figure 1 is in it", x.of(1, 4), count - 1);
            }
        }
    }

    // "Returns how many frames the round has."
    private static void playReturnsHowManyFrames() {
        Sided x = new Sided();
        x.begin(20);
        for (int i = 1; i <= 10; i++) {
            Check.same("all of them, not those of the call", x.play(60, 0, 0), 60 * i);
        }
        x.begin(20);
        Check.same("from 1 on in a later round", x.play(1, 0, 0), 1);
    }

    // "until the round is over"
    private static void playUntilTheRoundIsOver() {
        Sided x = new Sided();
        x.begin(20);
        Scene.wait(x, 541);
        Check.same("not beyond the frame 600", x.play(60, 0, 0), 600);
        Sided y = Scene.withQuick(DuelFrames.MID, 200);
        y.begin(20);
        // A hit each third frame: 200, 180, 160, 140, 120, 100, 80, 60 are 1040.
        Check.same("not beyond the eighth hit", y.play(60, 10, 0), 3 * 7 + 2);
        Check.same("the loss of eight hits", y.of(1, 1), 1000 - 1040);
        Check.same("in the midst of the move", y.of(0, 3), M);
    }

    // play "Throws IllegalStateException if no round goes on"
    private static void noPlayWithoutARound() {
        Sided x = new Sided();
        Check.notNow("ahead of the first round", () -> x.play(1, 0, 0));
        x.begin(20);
        Scene.wait(x, 600);
        Check.notNow("behind the round", () -> x.play(1, 0, 0));
        Check.same("nothing was played", x.again(600, 0, 0), 290);
        Check.outOfBounds("no frame more", () -> x.again(601, 0, 0));
        x.begin(20);
        Check.same("in the next one", x.play(1, 0, 0), 1);
    }

    // "The first line of a method's throws clause that applies decides"
    private static void firstLineOfPlay() {
        Sided x = new Sided();
        Check.outOfRange("frames, and no round", () -> x.play(0, 0, 0));
        Check.outOfRange("frames, and no round", () -> x.play(61, 0, 0));
        Check.outOfRange("an input, and no round", () -> x.play(1, 5, 0));
        Check.outOfRange("the other one, and no round", () -> x.play(1, 0, -1));
        Check.outOfRange("no such move, and no round", () -> x.play(1, 10, 0));
    }

    // ---- of

    // "figure: 0 or 1", "Throws IndexOutOfBoundsException if there is no such figure"
    private static void ofFigure() {
        Sided x = new Sided();
        for (int figure : new int[] {-1, 2, FAR_BELOW, FAR_ABOVE}) {
            Check.outOfBounds("ahead of the first round, figure " + figure, () -> x.of(figure, 0));
        }
        x.begin(20);
        for (int figure : new int[] {-1, 2, FAR_BELOW, FAR_ABOVE}) {
            Check.outOfBounds("figure " + figure, () -> x.of(figure, 0));
            Check.outOfBounds("figure " + figure + " decides", () -> x.of(figure, 8));
            Check.outOfBounds("figure " + figure + " decides", () -> x.of(figure, -1));
        }
        Check.same("figure 0", x.of(0, 0), 290);
        Check.same("figure 1", x.of(1, 0), 310);
    }

    // "what: 0 its place, .. 7 how many rounds it has won", "Throws IllegalArgumentException if what is out of range"
    private static void ofWhat() {
        Sided x = new Sided();
        for (int round = 0; round < 2; round++) {
            for (int what : new int[] {-1, 8, FAR_BELOW, FAR_ABOVE}) {
                Check.outOfRange("what " + what, () -> x.of(0, what));
                Check.outOfRange("what " + what, () -> x.of(1, what));
            }
            if (round == 0) {
                x.begin(20);
            }
        }
        Check.figure("0 to 7", x, 0, 290, 1000, 0, S, NONE, 0, 0, 0);
    }

    // "Returns as told; 0 ahead of the first round, NONE for 4."
    private static void ofAheadOfTheFirstRound() {
        Sided x = Scene.withQuick(DuelFrames.MID, 1);
        for (int figure = 0; figure < 2; figure++) {
            Check.figure("ahead of it", x, figure, 0, 0, 0, 0, NONE, 0, 0, 0);
        }
        x.advantage(0, false);
        x.punish(0, 0);
        x.most(0, 4, 100);
        Check.outOfRange("a round that does not begin", () -> x.begin(19));
        for (int figure = 0; figure < 2; figure++) {
            Check.figure("still ahead of it", x, figure, 0, 0, 0, 0, NONE, 0, 0, 0);
        }
    }

    // "5 the frame of that": "in some frame of it, from 0 on"
    private static void ofTheFrameOfAMove() {
        Sided x = Scene.with(3, 2, 4, 1, DuelFrames.MID, 1);
        x.begin(20);
        for (int frame = 1; frame <= 8; frame++) {
            x.play(1, frame == 1 ? 10 : 0, 0);
            Check.figure("behind its frame " + (frame - 1), x, 0, 290, 1000, 0, M, 0, frame, 0);
        }
        x.play(1, 0, 0);
        Check.figure("behind the last one", x, 0, 290, 1000, 0, S, NONE, 0, 0);
    }

    // "or how many more frames it is HIT or BLOCKS, 0 if it STANDS"
    private static void ofTheFramesOfStuns() {
        for (int guard = 0; guard <= 4; guard += 4) {
            Sided x = Scene.withQuick(DuelFrames.MID, 10);
            x.begin(20);
            x.play(1, 10, 0);
            int stun = guard == 4 ? 12 : 20;
            for (int left = stun - 1; left >= 1; left--) {
                x.play(1, 0, guard);
                Check.same("does", x.of(1, 3), guard == 4 ? B : H);
                Check.same("so many more", x.of(1, 5), left);
            }
            x.play(1, 0, 0);
            Check.same("STANDS", x.of(1, 3), S);
            Check.same("0", x.of(1, 5), 0);
        }
    }

    // "4 the move in which it is, NONE"
    private static void ofTheMove() {
        Sided x = Scene.withQuick(DuelFrames.MID, 10);
        x.move(5, 1, 5, 20, DuelFrames.MID, 10);
        x.begin(20);
        Check.same("STANDS", x.of(1, 4), NONE);
        x.play(1, 10, 11);
        Check.same("in the move 0", x.of(0, 4), 0);
        Check.same("in the move 1", x.of(1, 4), 1);
        x.play(1, 0, 0);
        Check.same("HIT in the move 1", x.of(1, 4), NONE);
        Scene.wait(x, 30);
        x.play(1, 10, 4);
        x.play(1, 0, 4);
        Check.same("BLOCKS", x.of(1, 3), B);
        Check.same("BLOCKS", x.of(1, 4), NONE);
    }

    // "7 how many rounds it has won in the set"
    private static void ofRoundsWon() {
        Sided x = Scene.withQuick(DuelFrames.MID, 200);
        x.begin(20);
        Scene.quick(x, 0, 0);
        Check.same("not ahead of the end", x.of(0, 7), 0);
        Scene.waitOut(x);
        Check.figure("with the end", x, 0, 290, 1000, 5, S, NONE, 0, 0, 1);
        win(x, 1);
        Check.same("one each", x.of(0, 7), 1);
        Check.same("one each", x.of(1, 7), 1);
        win(x, 0);
        Check.same("two of the set that is won", x.of(0, 7), 2);
        Check.same("one of it", x.of(1, 7), 1);
        x.begin(20);
        Check.same("none of the new set", x.of(0, 7), 0);
        Check.same("none of the new set", x.of(1, 7), 0);
    }

    // ---- goesOn, winner, and the step 6

    // "Returns whether a round goes on."
    private static void goesOn() {
        Sided x = new Sided();
        Check.no("ahead of the first round", x.goesOn());
        x.begin(20);
        Check.yes("with no frame yet", x.goesOn());
        Scene.wait(x, 599);
        Check.yes("behind the frame 599", x.goesOn());
        x.play(1, 0, 0);
        Check.no("behind the frame 600", x.goesOn());
        x.begin(20);
        Check.yes("in the next round", x.goesOn());
    }

    // "The round is over, .. with the 600th frame"
    private static void overWithTheSixHundredthFrame() {
        Sided x = new Sided();
        x.begin(20);
        Scene.wait(x, 598);
        Check.same("the frame 599", x.play(1, 0, 0), 599);
        Check.yes("is not the last one", x.goesOn());
        Check.same("the frame 600", x.play(1, 0, 0), 600);
        Check.no("is", x.goesOn());
        Check.notNow("there is no frame 601", () -> x.play(1, 0, 0));
        Sided y = Scene.with(1, 1, 1, 150, DuelFrames.MID, 100);
        y.begin(20);
        Scene.wait(y, 598);
        y.play(1, 10, 0);
        y.play(1, 0, 0);
        Check.same("a hit in the frame 600 counts", y.of(1, 1), 900);
        Check.same("who has more life then wins", y.of(0, 7), 1);
        Sided z = Scene.with(1, 1, 1, 150, DuelFrames.MID, 100);
        z.begin(20);
        Scene.wait(z, 599);
        z.play(60, 10, 0);
        Check.same("one in the frame 601 does not come", z.of(1, 1), 1000);
        Check.same("nobody has won", z.of(0, 7) + z.of(1, 7), 0);
    }

    /** The figure 0 has lost 800, in four hits that are each the first of a row; nobody has gone. */
    private static Sided lost800(int damage) {
        Sided x = Scene.withQuick(DuelFrames.MID, 200);
        x.move(1, 1, 1, 150, DuelFrames.MID, damage);
        for (int i = 0; i < 2; i++) {
            x.patch(i, 0, 0);
            x.patch(i, 2, 0);
        }
        x.begin(20);
        for (int i = 0; i < 4; i++) {
            x.play(1, 0, 10);
            x.play(2, 0, 0);
        }
        Check.same("200 are left", x.of(0, 1), 200);
        return x;
    }

    // "The round is over, if a life is 0 or less": 1, then 0
    private static void overWithALifeOfNothing() {
        Sided x = lost800(199);
        x.play(1, 0, 11);
        x.play(1, 0, 0);
        Check.same("1 is left", x.of(0, 1), 1);
        Check.yes("it goes on with 1", x.goesOn());
        Sided y = lost800(200);
        y.play(1, 0, 11);
        Check.yes("it goes on ahead of the hit", y.goesOn());
        Check.same("over in the frame of the hit", y.play(60, 0, 0), 14);
        Check.same("0 is left", y.of(0, 1), 0);
        Check.no("it is over with 0", y.goesOn());
        Check.same("the figure 1 has won", y.of(1, 7), 1);
        Check.same("the figure 0 has not", y.of(0, 7), 0);
    }

    private static void overWithALifeBelowNothing() {
        Sided x = lost800(199);
        x.play(1, 0, 11);
        x.play(2, 0, 0);
        x.play(1, 0, 10);
        x.play(60, 0, 0);
        Check.same("below 0 is told", x.of(0, 1), 1 - 200);
        Check.no("over", x.goesOn());
        Check.same("won", x.of(1, 7), 1);
        // By a block, too.
        Sided y = lost800(199);
        y.play(1, 0, 11);
        y.play(2, 0, 0);
        y.play(1, 0, 11);
        Check.same("by a block", y.play(60, 4, 0), 17);
        Check.same("by a block: the life", y.of(0, 1), 1 - 19);
        Check.same("by a block: won", y.of(1, 7), 1);
    }

    /** Both have lost 960, each the first of a row, in four trades. */
    private static Sided both40() {
        Sided x = Scene.withQuick(DuelFrames.MID, 200);
        x.move(1, 1, 1, 150, DuelFrames.MID, 10);
        for (int i = 0; i < 2; i++) {
            x.patch(i, 0, 0);
            x.patch(i, 2, 0);
        }
        x.begin(20);
        for (int i = 0; i < 4; i++) {
            x.play(1, 10, 10);
            x.play(5, 0, 0);
        }
        Check.same("40 are left", x.of(0, 1), 40);
        Check.same("40 are left", x.of(1, 1), 40);
        return x;
    }

    private static void overWithBothLives() {
        Sided x = both40();
        x.play(1, 10, 10);
        x.play(60, 0, 0);
        Check.same("both below 0", x.of(0, 1), -200);
        Check.same("both below 0", x.of(1, 1), -200);
        Check.no("over", x.goesOn());
        Check.same("the same: nobody wins", x.of(0, 7) + x.of(1, 7), 0);
    }

    // "who has more life wins it", both being below 0
    private static void moreLifeOfTwoBelowNothing() {
        for (int figure = 0; figure < 2; figure++) {
            Sided x = both40();
            x.play(1, figure == 0 ? 11 : 0, figure == 1 ? 11 : 0);
            x.play(2, 0, 0);
            Check.same("30 are left", x.of(1 - figure, 1), 30);
            x.play(1, 10, 10);
            x.play(60, 0, 0);
            Check.same("-200", x.of(figure, 1), -200);
            Check.same("-210", x.of(1 - figure, 1), -210);
            Check.same("more wins", x.of(figure, 7), 1);
            Check.same("less does not", x.of(1 - figure, 7), 0);
        }
    }

    private static void moreLifeByOne() {
        for (int figure = 0; figure < 2; figure++) {
            Sided x = Scene.withQuick(DuelFrames.MID, 1);
            x.begin(20);
            x.play(1, figure == 0 ? 10 : 0, figure == 1 ? 10 : 0);
            x.play(1, 0, 0);
            Scene.waitOut(x);
            Check.same("1 less", x.of(1 - figure, 1), 999);
            Check.same("1 more wins", x.of(figure, 7), 1);
            Check.same("1 less does not", x.of(1 - figure, 7), 0);
        }
    }

    // "nobody with the same"
    private static void nobodyWithTheSame() {
        Sided x = Scene.withQuick(DuelFrames.MID, 1);
        x.begin(20);
        x.play(1, 10, 10);
        x.play(1, 0, 0);
        Scene.waitOut(x);
        Check.same("the same", x.of(0, 1), 999);
        Check.same("the same", x.of(1, 1), 999);
        Check.same("nobody", x.of(0, 7) + x.of(1, 7), 0);
        Check.same("it was begun all the same", x.begin(20), 2);
    }

    // "Who has won two rounds has won the set."
    private static void twoRoundsWinASet() {
        for (int figure = 0; figure < 2; figure++) {
            Sided x = Scene.withQuick(DuelFrames.MID, 200);
            win(x, figure);
            Check.same("one is not enough", x.winner(), NONE);
            win(x, 1 - figure);
            Check.same("one each is not", x.winner(), NONE);
            x.begin(20);
            Scene.waitOut(x);
            Check.same("one by nobody is not", x.winner(), NONE);
            x.begin(20);
            Check.same("nor with a round that goes on", x.winner(), NONE);
            x.play(60, figure == 0 ? 10 : 0, figure == 1 ? 10 : 0);
            Check.same("two are", x.winner(), figure);
        }
    }

    // "Returns who has won the latest set; NONE if it is not won."
    private static void winnerOfTheLatestSet() {
        Sided x = Scene.withQuick(DuelFrames.MID, 200);
        Check.same("no set", x.winner(), NONE);
        win(x, 1);
        win(x, 1);
        Check.same("won", x.winner(), 1);
        Check.outOfRange("a round that does not begin", () -> x.begin(301));
        Check.same("still won", x.winner(), 1);
        x.begin(20);
        Check.same("the new set is not", x.winner(), NONE);
        x.play(60, 10, 0);
        Check.same("nor by one", x.winner(), NONE);
        win(x, 0);
        Check.same("won by the other one", x.winner(), 0);
    }

    // "An object is used for at most 512 calls after it has been made"
    private static void fiveHundredAndTwelveCalls() {
        Sided x = new Sided();
        for (int i = 0; i < 6; i++) {
            x.move(1, 1, 1, 150, DuelFrames.MID, 10);
        }
        int frames = 0;
        for (int i = 1; i <= 46; i++) {
            Check.same("the call " + (6 + 11 * i - 10), x.begin(20), i);
            for (int k = 0; k < 10; k++) {
                frames = x.play(60, 0, 0);
            }
        }
        Check.same("the call 512", frames, 600);
    }
}
