/** Promises 1 to 4 and the chapter 'Moves': a test of its own for each sentence that names a boundary case. */
public final class EdgesOfMovesTest {
    private static final int[] LEAST = {1, 1, 1, 1, DuelFrames.HIGH, 1};
    private static final int[] GREATEST = {30, 10, 40, 150, DuelFrames.THROW, 200};
    private static final int[] FIRST_TRAITS = {20, 12, 10, 0, 5};
    private static final int FAR_BELOW = Integer.MIN_VALUE, FAR_ABOVE = Integer.MAX_VALUE;

    public static void main(String[] args) {
        noMovesNoRound();
        numberedFromZero();
        atMostSix();
        theSeventhWithAWrongArgument();
        startup();
        active();
        recovery();
        reach();
        kind();
        damage();
        bothFiguresHaveAll();
        noMoveInARound();
        aMoveBehindARound();
        traitsAtFirst();
        noCancelsAtFirst();
        patchOfAMove();
        patchOfWhat();
        patchOfValue();
        patchReturnsThatBefore();
        patchOfOneAlone();
        patchInARound();
        firstLineOfPatch();
        cancelOfAMove();
        cancelInto();
        cancelIntoItself();
        cancelReturnsWhetherItMight();
        cancelOneWayAlone();
        cancelInARound();
        Check.end("EdgesOfMovesTest");
    }

    private static int make(Sided x, int[] facts) {
        return x.move(facts[0], facts[1], facts[2], facts[3], facts[4], facts[5]);
    }

    private static Sided withMoves(int count) {
        Sided x = new Sided();
        for (int i = 0; i < count; i++) {
            x.move(1 + i, 1 + i, 1 + i, 20 + i, i % 4, 10 + i);
        }
        return x;
    }

    // "DuelFrames(): No moves, no round."
    private static void noMovesNoRound() {
        Sided x = new Sided();
        Check.outOfBounds("no move to patch", () -> x.patch(0, 0, 0));
        Check.outOfBounds("no move to cancel", () -> x.cancel(0, 0, true));
        Check.outOfBounds("no advantage", () -> x.advantage(0, false));
        Check.outOfBounds("nothing to punish", () -> x.punish(0, 0));
        Check.outOfBounds("no most", () -> x.most(0, 1, 0));
        Check.outOfBounds("no mostAt", () -> x.mostAt(0, 1, 0, 0));
        Check.no("no round goes on", x.goesOn());
        Check.same("nobody has won", x.winner(), DuelFrames.NONE);
        Check.notNow("no round to play", () -> x.play(1, 0, 0));
        Check.outOfBounds("no frame", () -> x.again(0, 0, 0));
        Check.same("the first round", x.begin(20), 1);
    }

    // "Moves are numbered from 0, .."
    private static void numberedFromZero() {
        Sided x = new Sided();
        for (int i = 0; i < 6; i++) {
            int number = i;
            Check.outOfBounds("not there yet: " + i, () -> x.patch(number, 0, 20));
            Check.same("the number of the move " + i, x.move(1, 1, 1, 1, 0, 1), i);
            Check.same("it is there: " + i, x.patch(i, 0, 20), 20);
        }
    }

    // ".. at most 6", "Throws IllegalStateException if there are 6"
    private static void atMostSix() {
        Sided x = withMoves(5);
        Check.same("the sixth", x.move(1, 1, 1, 1, 0, 1), 5);
        Check.notNow("the seventh", () -> x.move(1, 1, 1, 1, 0, 1));
        Check.outOfBounds("it is not there", () -> x.patch(6, 0, 20));
        Check.notNow("nor an eighth", () -> x.move(30, 10, 40, 150, 3, 200));
        Check.same("the six are as they were", x.patch(5, 0, 20), 20);
    }

    // "The first line of a method's throws clause that applies decides"
    private static void theSeventhWithAWrongArgument() {
        Sided x = withMoves(6);
        for (int i = 0; i < 6; i++) {
            int[] facts = LEAST.clone();
            facts[i] = LEAST[i] - 1;
            Check.outOfRange("a seventh, argument " + i + " too small", () -> make(x, facts));
            int[] others = LEAST.clone();
            others[i] = GREATEST[i] + 1;
            Check.outOfRange("a seventh, argument " + i + " too large", () -> make(x, others));
        }
    }

    /** One argument at both ends of its range, and just and far outside of both. */
    private static void range(String what, int argument) {
        Sided x = new Sided();
        int least = LEAST[argument];
        int greatest = GREATEST[argument];
        for (int value : new int[] {least - 1, greatest + 1, FAR_BELOW, FAR_ABOVE}) {
            int[] facts = GREATEST.clone();
            facts[argument] = value;
            Check.outOfRange(what + " " + value, () -> make(x, facts));
        }
        Check.outOfBounds(what + ": none was made", () -> x.patch(0, 0, 20));
        int made = 0;
        for (int value : new int[] {least, least + 1, greatest - 1, greatest}) {
            int[] facts = GREATEST.clone();
            facts[argument] = value;
            Check.same(what + " " + value, make(x, facts), made);
            made++;
        }
    }

    // "startup: 1 to 30"
    private static void startup() {
        range("startup", 0);
    }

    // "active: 1 to 10"
    private static void active() {
        range("active", 1);
    }

    // "recovery: 1 to 40"
    private static void recovery() {
        range("recovery", 2);
    }

    // "reach: 1 to 150"
    private static void reach() {
        range("reach", 3);
    }

    // "kind: HIGH to THROW"
    private static void kind() {
        range("kind", 4);
    }

    // "damage: 1 to 200"
    private static void damage() {
        range("damage", 5);
    }

    // "both figures have all of them"
    private static void bothFiguresHaveAll() {
        for (int move = 0; move < 6; move++) {
            Sided x = withMoves(6);
            x.begin(300);
            x.play(1, 10 + move, 10 + move);
            Check.same("the figure 0 in the move " + move, x.of(0, 4), move);
            Check.same("the figure 1 in the move " + move, x.of(1, 4), move);
        }
    }

    // move "Throws IllegalStateException if .. a round goes on"
    private static void noMoveInARound() {
        Sided x = withMoves(2);
        x.begin(100);
        Check.notNow("as the round begins", () -> make(x, LEAST));
        x.play(1, 0, 0);
        Check.notNow("in the round", () -> make(x, GREATEST));
        for (int i = 0; i < 6; i++) {
            int[] facts = LEAST.clone();
            facts[i] = GREATEST[i] + 1;
            Check.outOfRange("the argument " + i + " decides first", () -> make(x, facts));
        }
        Check.outOfRange("there is none to play", () -> x.play(1, 12, 0));
    }

    private static void aMoveBehindARound() {
        Sided x = withMoves(2);
        x.begin(300);
        Scene.waitOut(x);
        Check.same("the round is over: the next number", make(x, LEAST), 2);
        x.begin(300);
        Check.same("it is played", x.play(1, 12, 12), 1);
    }

    // "a hit stun and a block stun, 20 and 12 at first, a push, 10 at first, a cost and a gain, 0 and 5 at first"
    private static void traitsAtFirst() {
        Sided x = withMoves(6);
        for (int move = 0; move < 6; move++) {
            for (int what = 0; what < 5; what++) {
                Check.same("move " + move + ", what " + what, x.patch(move, what, 1), FIRST_TRAITS[what]);
            }
        }
    }

    // "it may be cancelled into others, none at first"
    private static void noCancelsAtFirst() {
        Sided x = withMoves(6);
        for (int i = 0; i < 36; i++) {
            Check.no("from " + i / 6 + " into " + i % 6, x.cancel(i / 6, i % 6, true));
        }
        for (int i = 0; i < 36; i++) {
            Check.yes("all at once: from " + i / 6 + " into " + i % 6, x.cancel(i / 6, i % 6, true));
        }
    }

    // patch: "move: a move", "Throws IndexOutOfBoundsException if there is no such move"
    private static void patchOfAMove() {
        for (int count : new int[] {0, 1, 6}) {
            Sided x = withMoves(count);
            for (int move : new int[] {-1, count, FAR_BELOW, FAR_ABOVE}) {
                Check.outOfBounds("move " + move + " of " + count, () -> x.patch(move, 0, 0));
            }
            for (int move = 0; move < count; move++) {
                Check.same("move " + move + " of " + count, x.patch(move, 0, 0), 20);
            }
        }
    }

    // "what: 0 the hit stun, 1 the block stun, 2 the push, 3 the cost, 4 the gain"
    private static void patchOfWhat() {
        Sided x = withMoves(1);
        for (int what : new int[] {-1, 5, FAR_BELOW, FAR_ABOVE}) {
            Check.outOfRange("what " + what, () -> x.patch(0, what, 0));
        }
        for (int what = 0; what < 5; what++) {
            Check.same("what " + what, x.patch(0, what, 0), FIRST_TRAITS[what]);
        }
    }

    // "value: 0 to 60"
    private static void patchOfValue() {
        Sided x = withMoves(1);
        for (int what = 0; what < 5; what++) {
            int which = what;
            for (int value : new int[] {-1, 61, FAR_BELOW, FAR_ABOVE}) {
                Check.outOfRange("what " + what + ", value " + value, () -> x.patch(0, which, value));
            }
            Check.same("0 for " + what + " behind the refused ones", x.patch(0, what, 0), FIRST_TRAITS[what]);
            Check.same("1 for " + what, x.patch(0, what, 1), 0);
            Check.same("59 for " + what, x.patch(0, what, 59), 1);
            Check.same("60 for " + what, x.patch(0, what, 60), 59);
            Check.same("60 was put for " + what, x.patch(0, what, 60), 60);
        }
    }

    // "Returns that before."
    private static void patchReturnsThatBefore() {
        Sided x = withMoves(1);
        Check.same("that at first", x.patch(0, 2, 33), 10);
        Check.same("that of the patch ahead", x.patch(0, 2, 33), 33);
        Check.same("also if it is the same", x.patch(0, 2, 34), 33);
    }

    private static void patchOfOneAlone() {
        for (int i = 0; i < 30; i++) {
            Sided x = withMoves(6);
            x.patch(i / 5, i % 5, 60);
            for (int k = 0; k < 30; k++) {
                int due = k == i ? 60 : FIRST_TRAITS[k % 5];
                Check.same("patched " + i + ", looked at " + k, x.patch(k / 5, k % 5, 1), due);
            }
        }
    }

    // patch "Throws IllegalStateException if a round goes on"
    private static void patchInARound() {
        Sided x = withMoves(1);
        x.begin(20);
        Check.notNow("as the round begins", () -> x.patch(0, 0, 0));
        x.play(60, 0, 0);
        Check.notNow("in the round", () -> x.patch(0, 0, 0));
        for (int i = 0; i < 8; i++) {
            x.play(60, 0, 0);
        }
        x.play(59, 0, 0);
        Check.notNow("ahead of its last frame", () -> x.patch(0, 0, 0));
        x.play(1, 0, 0);
        Check.same("behind its last frame", x.patch(0, 0, 0), 20);
    }

    // "The first line of a method's throws clause that applies decides"
    private static void firstLineOfPatch() {
        Sided x = withMoves(1);
        Check.outOfBounds("no such move and no such what", () -> x.patch(1, 5, 0));
        Check.outOfBounds("no such move and no such value", () -> x.patch(-1, 0, 61));
        x.begin(20);
        Check.outOfBounds("no such move, in a round", () -> x.patch(1, 0, 0));
        Check.outOfBounds("no such move, what and value, in a round", () -> x.patch(1, -1, -1));
        Check.outOfRange("no such what, in a round", () -> x.patch(0, 5, 0));
        Check.outOfRange("no such value, in a round", () -> x.patch(0, 0, 61));
        Check.notNow("in a round", () -> x.patch(0, 0, 60));
    }

    // cancel: "move: a move", "Throws IndexOutOfBoundsException if there is no such move, of either"
    private static void cancelOfAMove() {
        for (int count : new int[] {0, 1, 6}) {
            Sided x = withMoves(count);
            for (int move : new int[] {-1, count, FAR_BELOW, FAR_ABOVE}) {
                Check.outOfBounds("move " + move + " of " + count, () -> x.cancel(move, 0, true));
            }
            for (int move = 0; move < count; move++) {
                Check.no("move " + move + " of " + count, x.cancel(move, 0, true));
            }
        }
    }

    // "into: a move"
    private static void cancelInto() {
        for (int count : new int[] {1, 6}) {
            Sided x = withMoves(count);
            for (int into : new int[] {-1, count, FAR_BELOW, FAR_ABOVE}) {
                Check.outOfBounds("into " + into + " of " + count, () -> x.cancel(0, into, true));
                Check.outOfBounds("both wrong", () -> x.cancel(into, into, true));
            }
            for (int into = 0; into < count; into++) {
                Check.no("into " + into + " of " + count, x.cancel(0, into, true));
            }
        }
    }

    // "into another one, or itself"
    private static void cancelIntoItself() {
        Sided x = withMoves(2);
        Check.no("0 into itself", x.cancel(0, 0, true));
        Check.no("not 1 by that", x.cancel(1, 1, false));
        Check.yes("0 may", x.cancel(0, 0, false));
    }

    // "Returns whether it might."
    private static void cancelReturnsWhetherItMight() {
        Sided x = withMoves(1);
        Check.no("not, and not now", x.cancel(0, 0, false));
        Check.no("not ahead of it", x.cancel(0, 0, true));
        Check.yes("it might, and may", x.cancel(0, 0, true));
        Check.yes("it might, and may not now", x.cancel(0, 0, false));
        Check.no("not any more", x.cancel(0, 0, false));
    }

    private static void cancelOneWayAlone() {
        for (int i = 0; i < 36; i++) {
            Sided x = withMoves(6);
            x.cancel(i / 6, i % 6, true);
            for (int k = 0; k < 36; k++) {
                Check.same("cancelled " + i + ", looked at " + k, x.cancel(k / 6, k % 6, false) ? 1 : 0, k == i ? 1 : 0);
            }
        }
    }

    // cancel "Throws IllegalStateException if a round goes on", "The first line .. decides"
    private static void cancelInARound() {
        Sided x = withMoves(1);
        x.begin(300);
        Check.notNow("as the round begins", () -> x.cancel(0, 0, true));
        Check.outOfBounds("no such move decides", () -> x.cancel(1, 0, true));
        Check.outOfBounds("no such into decides", () -> x.cancel(0, 1, true));
        x.play(60, 0, 0);
        Check.notNow("in the round", () -> x.cancel(0, 0, true));
        Scene.waitOut(x);
        Check.no("behind the round, and nothing was changed", x.cancel(0, 0, true));
    }
}
