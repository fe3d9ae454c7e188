/** Promise 6, what a frame does: going, walls, reaches, hits, blocks, throws, cancels, inputs that are kept. */
public final class FramesTest {
    private static final int S = DuelFrames.STANDS, M = DuelFrames.MOVE, H = DuelFrames.HIT, B = DuelFrames.BLOCKS;
    private static final int NONE = DuelFrames.NONE;

    public static void main(String[] args) {
        going();
        goingIntoEachOther();
        ends();
        whoActsDoesNotGo();
        reaches();
        activeFrames();
        touchesOnce();
        blocks();
        blocksOnlyWhenFree();
        hitsInRow();
        lossesBecomeLess();
        shortStuns();
        counterHits();
        trades();
        bothReachAheadOfThePush();
        bothReachAtTheWall();
        bothReachLate();
        throwsHit();
        throwsPart();
        pushesAtWalls();
        meters();
        costs();
        cancels();
        cancelsOfBlockedOnes();
        cancelsFrameTen();
        cancelsIntoItself();
        keptInputs();
        keptInputsAreReplaced();
        keptInputsAreDroppedByRounds();
        Check.end("FramesTest");
    }

    private static DuelFrames with(int startup, int active, int recovery, int reach, int kind, int damage) {
        DuelFrames x = new DuelFrames();
        x.move(startup, active, recovery, reach, kind, damage);
        return x;
    }

    /** Two frames, the move of the figure 0 in the first one alone. */
    private static void act(DuelFrames x, int one, int two) {
        x.play(1, one, two);
        x.play(1, 0, two < 10 ? two : 0);
    }

    private static void places(String what, DuelFrames x, int left, int right) {
        Check.same(what + ": the figure 0", x.of(0, 0), left);
        Check.same(what + ": the figure 1", x.of(1, 0), right);
    }

    private static void going() {
        DuelFrames x = new DuelFrames();
        x.begin(100);
        x.play(1, 1, 0);
        places("0 forward", x, 254, 350);
        x.play(1, 2, 0);
        places("0 back", x, 251, 350);
        x.play(1, 0, 1);
        places("1 forward", x, 251, 346);
        x.play(1, 0, 2);
        places("1 back", x, 251, 349);
        x.play(5, 3, 3);
        places("low", x, 251, 349);
        x.play(5, 4, 4);
        places("back and low", x, 251, 349);
        x.play(5, 0, 0);
        places("nothing", x, 251, 349);
    }

    private static void goingIntoEachOther() {
        DuelFrames x = new DuelFrames();
        x.begin(20);
        x.play(1, 1, 0);
        places("4 are missing", x, 292, 312);
        x.play(1, 1, 1);
        places("8 are missing", x, 292, 312);
        x.play(1, 1, 2);
        places("1 is missing: the figure 1 goes", x, 296, 316);
        x.play(1, 2, 1);
        places("1 is missing the other way", x, 293, 313);
        x.play(1, 2, 0);
        places("none is missing", x, 290, 313);
        x.play(1, 0, 1);
        places("11 of 23: none is missing but 1", x, 290, 310);
    }

    private static void ends() {
        DuelFrames x = new DuelFrames();
        x.begin(300);
        x.play(50, 2, 2);
        places("at the ends", x, 0, 600);
        x.play(1, 2, 2);
        places("not beyond", x, 0, 600);
        x.play(60, 2, 1);
        x.play(60, 2, 1);
        x.play(60, 2, 1);
        places("the figure 0 is in the corner", x, 0, 20);
        x.play(1, 0, 1);
        places("nobody is nearer", x, 0, 20);
        for (int i = 0; i < 4; i++) {
            x.play(60, 1, 2);
        }
        places("the figure 1 is in the corner", x, 580, 600);
        x.play(1, 1, 0);
        places("nobody is nearer there", x, 580, 600);
        x.play(1, 2, 0);
        places("away from it", x, 577, 600);
        x.play(1, 1, 2);
        places("19 apart", x, 580, 600);
    }

    private static void whoActsDoesNotGo() {
        DuelFrames x = with(5, 1, 5, 20, DuelFrames.MID, 10);
        x.begin(100);
        x.play(1, 10, 0);
        places("the first frame of a move", x, 250, 350);
        x.play(10, 1, 0);
        places("in the move", x, 250, 350);
        Check.same("behind the last frame", x.of(0, 3), S);
        x.play(1, 1, 0);
        places("free", x, 254, 350);
    }

    private static void reaches() {
        DuelFrames x = with(1, 1, 1, 40, DuelFrames.MID, 10);
        x.begin(40);
        act(x, 10, 0);
        Check.same("at most its reach", x.of(1, 1), 990);
        DuelFrames y = with(1, 1, 1, 39, DuelFrames.MID, 10);
        y.begin(40);
        act(y, 10, 0);
        Check.same("beyond its reach", y.of(1, 1), 1000);
        // Places count behind the going of the frame.
        DuelFrames z = with(1, 1, 1, 39, DuelFrames.MID, 10);
        z.begin(40);
        z.play(1, 10, 0);
        z.play(1, 0, 1);
        Check.same("coming into its reach", z.of(1, 1), 990);
    }

    private static void activeFrames() {
        DuelFrames x = with(4, 3, 6, 39, DuelFrames.MID, 10);
        x.begin(40);
        x.play(1, 10, 0);
        x.play(5, 0, 0);
        Check.figure("in an active frame", x, 0, 280, 1000, 0, M, 0, 6, 0);
        x.play(1, 0, 1);
        Check.same("the last active frame hits", x.of(1, 1), 990);
        DuelFrames y = with(4, 3, 6, 39, DuelFrames.MID, 10);
        y.begin(40);
        y.play(1, 10, 0);
        y.play(6, 0, 0);
        y.play(1, 0, 1);
        Check.same("the frame behind it does not", y.of(1, 1), 1000);
        Check.same("frame 8", y.of(0, 5), 8);
        y.play(4, 0, 0);
        Check.same("the last frame", y.of(0, 5), 12);
        Check.same("still in it", y.of(0, 3), M);
        y.play(1, 0, 0);
        Check.figure("behind it", y, 0, 280, 1000, 0, S, NONE, 0, 0);
    }

    private static void touchesOnce() {
        DuelFrames x = with(1, 10, 1, 150, DuelFrames.MID, 10);
        x.patch(0, 0, 0);
        x.begin(20);
        x.play(1, 10, 0);
        x.play(10, 0, 0);
        Check.same("one hit", x.of(1, 1), 990);
        Check.same("one gain", x.of(0, 2), 5);
        x.play(1, 0, 0);
        act(x, 10, 0);
        Check.same("a new one hits again", x.of(1, 1), 980);
    }

    /** The loss of the figure 1, and what it does, with an input as the move comes. */
    private static void blocked(int kind, int input, int life, int does) {
        DuelFrames x = with(1, 1, 10, 150, kind, 99);
        x.begin(100);
        x.play(1, 10, 0);
        x.play(1, 0, input);
        Check.same("kind " + kind + ", input " + input + ": life", x.of(1, 1), life);
        Check.same("kind " + kind + ", input " + input + ": does", x.of(1, 3), does);
        Check.same("kind " + kind + ", input " + input + ": stun", x.of(1, 5), does == B ? 11 : 19);
        Check.same("kind " + kind + ", input " + input + ": count", x.of(1, 6), does == B ? 0 : 1);
        Check.same("kind " + kind + ", input " + input + ": meter", x.of(0, 2), 5);
        Check.same("kind " + kind + ", input " + input + ": place", x.of(1, 0),
                input == 1 ? 356 : input == 2 ? 363 : 360);
    }

    private static void blocks() {
        for (int kind = 0; kind < 4; kind++) {
            for (int input = 0; input < 5; input++) {
                boolean high = input == 2 && (kind == DuelFrames.HIGH || kind == DuelFrames.MID);
                boolean low = input == 4 && (kind == DuelFrames.LOW || kind == DuelFrames.MID);
                blocked(kind, input, high || low ? 991 : 901, high || low ? B : H);
            }
        }
        DuelFrames x = with(1, 1, 10, 150, DuelFrames.MID, 9);
        x.patch(0, 1, 0);
        x.begin(100);
        act(x, 10, 4);
        Check.figure("no stun: it stands at once", x, 1, 360, 1000, 0, S, NONE, 0, 0);
        DuelFrames y = with(1, 1, 1, 150, DuelFrames.MID, 10);
        y.patch(0, 1, 30);
        y.begin(100);
        act(y, 10, 4);
        Check.figure("blocks", y, 1, 360, 999, 0, B, NONE, 29, 0);
        y.play(1, 0, 0);
        act(y, 10, 2);
        Check.figure("who blocks can block again", y, 1, 370, 998, 0, B, NONE, 29, 0);
        y.play(1, 0, 0);
        act(y, 10, 0);
        Check.figure("who blocks can be hit", y, 1, 380, 988, 0, H, NONE, 19, 1);
    }

    private static void blocksOnlyWhenFree() {
        DuelFrames x = with(1, 1, 1, 150, DuelFrames.MID, 10);
        x.begin(100);
        act(x, 10, 0);
        Check.same("hit", x.of(1, 3), H);
        x.play(3, 10, 2);
        Check.figure("who is HIT can't block", x, 1, 370, 981, 0, H, NONE, 17, 2);
        DuelFrames y = with(1, 1, 10, 150, DuelFrames.MID, 10);
        y.move(5, 1, 5, 20, DuelFrames.MID, 10);
        y.begin(100);
        y.play(1, 10, 11);
        y.play(1, 0, 2);
        Check.figure("who is in a MOVE can't block", y, 1, 360, 988, 0, H, NONE, 23, 1);
        // An input of a move that can't begin is no guard, and one who stands with it is not in a MOVE.
        DuelFrames z = with(1, 1, 10, 150, DuelFrames.MID, 10);
        z.move(5, 1, 5, 20, DuelFrames.MID, 10);
        z.patch(1, 3, 1);
        z.begin(100);
        act(z, 10, 11);
        Check.figure("who stands with a move that costs too much", z, 1, 360, 990, 0, H, NONE, 19, 1);
    }

    private static void hitsInRow() {
        DuelFrames x = with(1, 1, 1, 150, DuelFrames.MID, 55);
        x.begin(20);
        int[] life = {945, 896, 852, 814, 781};
        int[] stun = {19, 17, 15, 13, 11};
        for (int i = 0; i < life.length; i++) {
            act(x, 10, 0);
            Check.figure("hit " + i, x, 1, 320 + 10 * i, life[i], 0, H, NONE, stun[i], i + 1);
            x.play(1, 0, 0);
        }
        x.play(10, 0, 0);
        Check.figure("free", x, 1, 360, 781, 0, S, NONE, 0, 0);
        act(x, 10, 0);
        Check.figure("a new row", x, 1, 370, 726, 0, H, NONE, 19, 1);
    }

    private static void lossesBecomeLess() {
        DuelFrames x = with(1, 1, 1, 150, DuelFrames.MID, 15);
        x.patch(0, 0, 60);
        x.patch(0, 2, 0);
        x.begin(20);
        int[] loss = {15, 13, 12, 10, 9, 7, 6, 4, 3, 1, 1, 1};
        int life = 1000;
        for (int i = 0; i < loss.length; i++) {
            act(x, 10, 0);
            life -= loss[i];
            Check.figure("hit " + i, x, 1, 310, life, 0, H, NONE, 59 - 2 * i, i + 1);
            x.play(1, 0, 0);
        }
    }

    private static void shortStuns() {
        DuelFrames x = with(1, 1, 1, 150, DuelFrames.MID, 10);
        x.patch(0, 0, 1);
        x.begin(20);
        act(x, 10, 0);
        Check.figure("a stun of 1", x, 1, 320, 990, 0, S, NONE, 0, 0);
        x.play(1, 0, 0);
        act(x, 10, 0);
        Check.figure("the count begins again", x, 1, 330, 980, 0, S, NONE, 0, 0);
        DuelFrames y = with(1, 1, 1, 150, DuelFrames.MID, 10);
        y.patch(0, 0, 4);
        y.begin(20);
        act(y, 10, 0);
        y.play(2, 0, 0);
        act(y, 10, 0);
        Check.figure("4 frames later it stands", y, 1, 330, 980, 0, H, NONE, 3, 1);
        // The row ends with a stun below 0, that is 0.
        DuelFrames z = with(1, 1, 1, 150, DuelFrames.MID, 10);
        z.move(1, 1, 1, 150, DuelFrames.MID, 10);
        z.patch(1, 0, 0);
        z.begin(20);
        act(z, 10, 0);
        z.play(1, 0, 0);
        act(z, 11, 0);
        Check.figure("less than 0", z, 1, 330, 981, 0, S, NONE, 0, 0);
    }

    private static void counterHits() {
        DuelFrames x = with(1, 1, 1, 150, DuelFrames.MID, 99);
        x.move(5, 1, 5, 20, DuelFrames.MID, 10);
        x.begin(100);
        x.play(1, 10, 11);
        Check.figure("in a move", x, 1, 350, 1000, 0, M, 1, 1, 0);
        x.play(1, 0, 0);
        Check.figure("hit in it", x, 1, 360, 882, 0, H, NONE, 23, 1);
        // In its recovery, too.
        DuelFrames y = with(1, 1, 1, 150, DuelFrames.MID, 1);
        y.move(1, 1, 20, 20, DuelFrames.MID, 10);
        y.begin(100);
        y.play(10, 0, 11);
        act(y, 10, 0);
        Check.figure("1 times 6 by 5 is 1", y, 1, 360, 999, 0, H, NONE, 23, 1);
    }

    private static void trades() {
        DuelFrames x = with(4, 2, 8, 40, DuelFrames.MID, 100);
        x.begin(20);
        x.play(1, 10, 10);
        x.play(4, 0, 0);
        Check.figure("both hit: the figure 0", x, 0, 280, 880, 5, H, NONE, 23, 1);
        Check.figure("both hit: the figure 1", x, 1, 320, 880, 5, H, NONE, 23, 1);
        // A throw against a strike: both reach who is in a MOVE ahead of the hits.
        DuelFrames y = with(4, 2, 8, 40, DuelFrames.THROW, 100);
        y.move(4, 2, 8, 40, DuelFrames.HIGH, 50);
        y.begin(20);
        y.play(1, 10, 11);
        y.play(4, 0, 0);
        Check.figure("a strike hits who throws", y, 0, 280, 940, 5, H, NONE, 23, 1);
        Check.figure("a throw hits who strikes", y, 1, 320, 880, 5, H, NONE, 23, 1);
        DuelFrames z = with(4, 2, 8, 40, DuelFrames.HIGH, 100);
        z.move(4, 2, 8, 40, DuelFrames.THROW, 50);
        z.begin(20);
        z.play(1, 10, 11);
        z.play(4, 0, 0);
        Check.figure("a throw as the second", z, 0, 280, 940, 5, H, NONE, 23, 1);
    }

    /** The document: by what both did ahead of all hits, but by places as they are by then, the figure 0 first. */
    private static void bothReachAheadOfThePush() {
        DuelFrames x = with(4, 2, 8, 40, DuelFrames.MID, 100);
        x.begin(40);
        x.play(1, 10, 10);
        x.play(4, 0, 0);
        Check.figure("the figure 1 reaches ahead of the push", x, 0, 270, 880, 5, H, NONE, 23, 1);
        Check.figure("the figure 0 comes first", x, 1, 330, 880, 5, H, NONE, 23, 1);
        DuelFrames y = with(4, 2, 8, 41, DuelFrames.MID, 100);
        y.move(4, 2, 8, 39, DuelFrames.MID, 100);
        y.begin(40);
        y.play(1, 10, 11);
        y.play(4, 0, 0);
        Check.figure("not reached", y, 0, 280, 1000, 5, M, 0, 5, 0);
        Check.figure("out of reach ahead of the push", y, 1, 330, 880, 0, H, NONE, 23, 1);
        DuelFrames z = with(4, 2, 8, 150, DuelFrames.THROW, 100);
        z.move(4, 2, 8, 40, DuelFrames.MID, 100);
        z.begin(40);
        z.play(1, 10, 11);
        z.play(4, 0, 0);
        Check.figure("a THROW and a MID both hit", z, 0, 270, 880, 5, H, NONE, 23, 1);
        Check.figure("though the THROW comes first", z, 1, 330, 880, 5, H, NONE, 23, 1);
    }

    /** What is missing behind the figure 0 takes the figure 1 back once more, from where the first hit has pushed it. */
    private static void bothReachAtTheWall() {
        DuelFrames x = with(4, 2, 8, 40, DuelFrames.MID, 100);
        x.begin(300);
        for (int i = 0; i < 2; i++) {
            x.play(60, 2, 1);
        }
        Check.same("at the wall", x.of(0, 0), 0);
        Check.same("the nearest place", x.of(1, 0), 20);
        x.play(1, 10, 10);
        x.play(4, 0, 0);
        Check.figure("the wall behind the figure 0", x, 0, 0, 880, 5, H, NONE, 23, 1);
        Check.figure("goes back by what is missing, too", x, 1, 40, 880, 5, H, NONE, 23, 1);
    }

    /** The run of calls of the issue 5. */
    private static void bothReachLate() {
        DuelFrames x = with(5, 1, 1, 50, DuelFrames.HIGH, 50);
        x.move(5, 1, 1, 50, DuelFrames.HIGH, 50);
        x.begin(30);
        x.play(60, 0, 0);
        x.play(1, 2, 10);
        x.play(60, 0, 0);
        x.play(1, 11, 10);
        for (int i = 0; i < 8; i++) {
            x.play(60, 0, 0);
        }
        Check.same("the figure 0 is pushed, too", x.of(0, 0), 262);
        Check.same("the figure 1 was pushed first", x.of(1, 0), 325);
        Check.same("and the round was played to its end", x.goesOn() ? 1 : 0, 0);
        Check.same("in reach of both", x.again(126, 1, 0) - x.again(126, 0, 0), 43);
        Check.same("ahead of both hits", x.again(126, 0, 0), 272);
        Check.same("behind both hits", x.again(127, 0, 0), 262);
    }

    private static void throwsHit() {
        DuelFrames x = with(1, 1, 1, 150, DuelFrames.THROW, 100);
        x.move(1, 1, 1, 150, DuelFrames.MID, 10);
        x.move(9, 1, 9, 20, DuelFrames.MID, 10);
        x.begin(100);
        act(x, 11, 0);
        x.play(1, 0, 0);
        x.play(3, 10, 0);
        Check.figure("who is HIT is not thrown", x, 1, 360, 990, 0, H, NONE, 15, 1);
        Check.same("nothing is gained by that", x.of(0, 2), 5);
        x.play(15, 0, 0);
        x.play(1, 11, 2);
        x.play(1, 0, 4);
        Check.same("blocks", x.of(1, 3), B);
        x.play(1, 0, 0);
        x.play(3, 10, 0);
        Check.same("who BLOCKS is not thrown", x.of(1, 1), 989);
        x.play(20, 0, 0);
        x.play(1, 10, 2);
        x.play(1, 0, 2);
        Check.same("who guards is thrown", x.of(1, 1), 889);
        Check.same("and HIT", x.of(1, 5), 19);
        x.play(40, 0, 0);
        act(x, 10, 12);
        Check.same("who is in a MOVE is thrown", x.of(1, 1), 769);
    }

    private static void throwsPart() {
        DuelFrames x = with(3, 1, 20, 30, DuelFrames.THROW, 100);
        x.begin(20);
        x.play(1, 10, 10);
        x.play(3, 0, 0);
        Check.figure("parted: the figure 0", x, 0, 270, 1000, 0, M, 0, 4, 0);
        Check.figure("parted: the figure 1", x, 1, 330, 1000, 0, M, 0, 4, 0);
        DuelFrames y = with(1, 5, 20, 150, DuelFrames.THROW, 100);
        y.begin(20);
        y.play(1, 10, 10);
        y.play(6, 0, 0);
        Check.same("they have touched", y.of(0, 1) + y.of(1, 1), 2000);
        places("they part once", y, 270, 330);
        DuelFrames z = with(1, 1, 1, 150, DuelFrames.THROW, 100);
        z.move(20, 1, 1, 150, DuelFrames.MID, 10);
        z.cancel(0, 1, true);
        z.begin(300);
        z.play(60, 2, 1);
        z.play(60, 2, 1);
        z.play(1, 10, 10);
        z.play(1, 0, 0);
        places("parted as far as the stage goes", z, 0, 40);
        z.play(1, 11, 0);
        Check.same("a touch lets cancel", z.of(0, 4), 1);
        // Throws that do not reach in the same frame part nobody.
        DuelFrames w = with(3, 1, 20, 30, DuelFrames.THROW, 100);
        w.move(4, 1, 20, 30, DuelFrames.THROW, 100);
        w.begin(20);
        w.play(1, 10, 11);
        w.play(4, 0, 0);
        Check.figure("the first throw hits", w, 1, 320, 880, 0, H, NONE, 22, 1);
        Check.same("the later one does not", w.of(0, 1), 1000);
        DuelFrames v = with(3, 1, 20, 30, DuelFrames.THROW, 100);
        v.move(3, 1, 20, 19, DuelFrames.THROW, 100);
        v.begin(20);
        v.play(1, 11, 10);
        v.play(3, 0, 0);
        Check.figure("one that does not reach is hit", v, 0, 280, 880, 0, H, NONE, 23, 1);
    }

    private static void pushesAtWalls() {
        DuelFrames x = with(1, 1, 1, 150, DuelFrames.MID, 1);
        x.patch(0, 2, 60);
        x.begin(300);
        x.play(50, 1, 2);
        places("in the corner", x, 350, 600);
        x.play(50, 1, 0);
        places("nearer", x, 550, 600);
        act(x, 10, 0);
        places("who reaches goes back", x, 490, 600);
        x.play(1, 0, 0);
        act(x, 10, 4);
        places("again, in the row", x, 430, 600);
        DuelFrames y = with(1, 1, 1, 150, DuelFrames.MID, 1);
        y.patch(0, 2, 60);
        y.begin(300);
        y.play(40, 2, 1);
        places("30 from the end", y, 30, 290);
        y.play(40, 0, 1);
        places("nearer", y, 30, 130);
        y.play(2, 4, 10);
        places("part of the push is missing", y, 0, 160);
    }

    private static void meters() {
        DuelFrames x = with(1, 1, 1, 150, DuelFrames.MID, 1);
        x.patch(0, 4, 60);
        x.begin(20);
        act(x, 10, 4);
        Check.same("by a block", x.of(0, 2), 60);
        x.play(1, 0, 0);
        act(x, 10, 4);
        Check.same("up to 100", x.of(0, 2), 100);
        Check.same("none for who blocks", x.of(1, 2), 0);
    }

    private static void costs() {
        DuelFrames x = with(1, 1, 1, 150, DuelFrames.MID, 1);
        x.move(3, 1, 1, 1, DuelFrames.MID, 1);
        x.patch(0, 4, 7);
        x.patch(1, 3, 8);
        x.begin(20);
        act(x, 10, 0);
        x.play(1, 0, 0);
        x.play(1, 11, 0);
        Check.figure("too dear", x, 0, 290, 1000, 7, S, NONE, 0, 0);
        DuelFrames y = with(1, 1, 1, 150, DuelFrames.MID, 1);
        y.move(3, 1, 1, 1, DuelFrames.MID, 1);
        y.patch(0, 4, 9);
        y.patch(1, 3, 8);
        y.begin(20);
        act(y, 10, 0);
        y.play(1, 0, 0);
        y.play(1, 11, 0);
        Check.figure("the cost is taken", y, 0, 290, 1000, 1, M, 1, 1, 0);
        y.play(5, 0, 0);
        y.play(1, 11, 0);
        Check.figure("once", y, 0, 290, 1000, 1, S, NONE, 0, 0);
    }

    private static DuelFrames withCancel() {
        DuelFrames x = with(3, 1, 30, 150, DuelFrames.MID, 10);
        x.move(5, 1, 5, 150, DuelFrames.MID, 10);
        x.cancel(0, 1, true);
        return x;
    }

    private static void cancels() {
        DuelFrames x = withCancel();
        x.begin(20);
        x.play(1, 10, 0);
        x.play(2, 0, 0);
        Check.same("ahead of the touch", x.of(0, 4), 0);
        x.play(1, 11, 0);
        Check.figure("the input of the frame of the touch is kept", x, 0, 290, 1000, 5, M, 0, 4, 0);
        x.play(1, 0, 0);
        Check.figure("cancelled in the next one", x, 0, 290, 1000, 5, M, 1, 1, 0);
        x.play(5, 0, 0);
        Check.figure("the new one hits", x, 1, 330, 981, 0, H, NONE, 17, 2);
        DuelFrames y = withCancel();
        y.cancel(0, 1, false);
        y.begin(20);
        y.play(1, 10, 0);
        y.play(3, 0, 0);
        y.play(1, 11, 0);
        Check.same("it may not", y.of(0, 4), 0);
        DuelFrames z = withCancel();
        z.begin(300);
        z.play(1, 10, 0);
        z.play(3, 0, 0);
        z.play(1, 11, 0);
        Check.same("without a touch", z.of(0, 4), 0);
    }

    private static void cancelsOfBlockedOnes() {
        DuelFrames x = withCancel();
        x.begin(20);
        x.play(1, 10, 0);
        x.play(3, 0, 4);
        Check.same("blocked", x.of(1, 3), B);
        x.play(1, 11, 0);
        Check.figure("a block is a touch", x, 0, 290, 1000, 5, M, 1, 1, 0);
    }

    private static void cancelsFrameTen() {
        DuelFrames x = withCancel();
        x.begin(20);
        x.play(1, 10, 0);
        x.play(3, 0, 0);
        x.play(9, 0, 0);
        x.play(1, 11, 0);
        Check.same("10 frames behind the touch", x.of(0, 4), 1);
        DuelFrames y = withCancel();
        y.begin(20);
        y.play(1, 10, 0);
        y.play(3, 0, 0);
        y.play(10, 0, 0);
        y.play(1, 11, 0);
        Check.same("11 frames behind it", y.of(0, 4), 0);
    }

    private static void cancelsIntoItself() {
        DuelFrames x = with(3, 1, 30, 150, DuelFrames.MID, 10);
        x.cancel(0, 0, true);
        x.begin(20);
        x.play(1, 10, 0);
        x.play(3, 0, 0);
        x.play(1, 10, 0);
        Check.same("from its first frame on", x.of(0, 5), 1);
        act(x, 10, 0);
        Check.same("it has not touched yet", x.of(0, 5), 3);
        x.play(1, 0, 0);
        Check.same("it touches again", x.of(1, 6), 2);
        x.play(1, 0, 0);
        Check.same("and goes on into itself", x.of(0, 5), 1);
    }

    /** Move 0 ends behind the frame 10; the input of move 1 comes in a frame ahead of that. */
    private static void kept(int frame, boolean begins) {
        DuelFrames x = with(4, 1, 5, 20, DuelFrames.MID, 10);
        x.move(4, 1, 5, 20, DuelFrames.MID, 10);
        x.begin(100);
        x.play(1, 10, 0);
        x.play(frame - 2, 0, 0);
        x.play(1, 11, 0);
        x.play(10 - frame, 0, 0);
        Check.same("free", x.of(0, 3), S);
        x.play(1, 0, 0);
        Check.same("input in the frame " + frame, x.of(0, 4), begins ? 1 : NONE);
        x.play(20, 0, 0);
        Check.same("it begins once", x.of(0, 3), S);
    }

    private static void keptInputs() {
        kept(9, true);
        kept(8, true);
        kept(7, true);
        kept(6, false);
        kept(5, false);
        DuelFrames x = with(4, 1, 5, 20, DuelFrames.MID, 10);
        x.move(1, 1, 1, 150, DuelFrames.MID, 10);
        x.patch(1, 0, 10);
        x.begin(100);
        act(x, 11, 0);
        x.play(5, 0, 0);
        x.play(1, 0, 10);
        x.play(3, 0, 0);
        Check.same("HIT till behind the frame 11", x.of(1, 3), S);
        x.play(1, 0, 0);
        Check.same("kept while HIT", x.of(1, 4), 0);
    }

    private static void keptInputsAreReplaced() {
        DuelFrames x = with(4, 1, 5, 20, DuelFrames.MID, 10);
        x.move(4, 1, 5, 20, DuelFrames.MID, 10);
        x.move(4, 1, 5, 20, DuelFrames.MID, 10);
        x.patch(2, 3, 1);
        x.begin(100);
        x.play(1, 10, 0);
        x.play(6, 0, 0);
        x.play(1, 10, 0);
        x.play(1, 11, 0);
        x.play(1, 1, 0);
        x.play(1, 2, 0);
        Check.same("the later one begins", x.of(0, 4), 1);
        DuelFrames y = with(4, 1, 5, 20, DuelFrames.MID, 10);
        y.move(4, 1, 5, 20, DuelFrames.MID, 10);
        y.patch(1, 3, 1);
        y.begin(100);
        y.play(1, 10, 0);
        y.play(7, 0, 0);
        y.play(1, 10, 0);
        y.play(1, 11, 0);
        y.play(5, 0, 0);
        Check.same("one that can't begin takes its place, too", y.of(0, 3), S);
    }

    private static void keptInputsAreDroppedByRounds() {
        DuelFrames x = with(1, 1, 40, 150, DuelFrames.MID, 200);
        x.move(1, 1, 1, 150, DuelFrames.MID, 200);
        x.begin(20);
        while (x.of(1, 1) > 60) {
            x.play(1, 11, 0);
        }
        Check.yes("nearly over", x.goesOn());
        x.play(2, 0, 0);
        x.play(1, 10, 0);
        Check.no("over with a kept input", x.goesOn());
        x.begin(20);
        x.play(1, 0, 0);
        Check.same("it is dropped", x.of(0, 3), S);
    }
}
