/** Promises 11 to 14: advantage, punish, most, mostAt. */
public final class LabTest {
    public static void main(String[] args) {
        advantages();
        advantagesOfMisses();
        punishes();
        punishesThatAreGuarded();
        rows();
        rowsByMeter();
        rowsInOrder();
        rowsWithoutHits();
        rowsOfLongMoves();
        rowsEndWhereTheCountIsNotMore();
        exceptions();
        leavesRoundsAlone();
        Check.end("LabTest");
    }

    private static DuelFrames with(int startup, int active, int recovery, int reach, int kind, int damage) {
        DuelFrames x = new DuelFrames();
        x.move(startup, active, recovery, reach, kind, damage);
        return x;
    }

    private static void advantages() {
        DuelFrames x = with(4, 2, 8, 40, DuelFrames.MID, 100);
        // Free behind the frame 14; the hit comes in the frame 5: HIT for 20 with it, or BLOCKS for 12.
        Check.same("hit", x.advantage(0, false), 24 - 14);
        Check.same("blocked", x.advantage(0, true), 16 - 14);
        x.patch(0, 0, 33);
        x.patch(0, 1, 3);
        Check.same("by its hit stun", x.advantage(0, false), 37 - 14);
        Check.same("by its block stun", x.advantage(0, true), 7 - 14);
        x.patch(0, 1, 0);
        Check.same("blocked without a stun", x.advantage(0, true), -14);
        DuelFrames low = with(6, 2, 10, 40, DuelFrames.LOW, 10);
        Check.same("a low one is blocked low", low.advantage(0, true), 18 - 18);
        DuelFrames high = with(6, 2, 10, 40, DuelFrames.HIGH, 10);
        Check.same("a high one is blocked", high.advantage(0, true), 18 - 18);
        DuelFrames thrown = with(3, 1, 20, 30, DuelFrames.THROW, 120);
        Check.same("a throw is not blocked", thrown.advantage(0, true), 23 - 24);
        DuelFrames longest = with(30, 10, 40, 150, DuelFrames.MID, 1);
        longest.patch(0, 0, 60);
        longest.patch(0, 3, 60);
        Check.same("the longest", longest.advantage(0, false), 90 - 80);
    }

    private static void advantagesOfMisses() {
        DuelFrames x = with(4, 2, 8, 19, DuelFrames.MID, 100);
        Check.same("out of reach", x.advantage(0, false), -14);
        Check.same("out of reach, blocked", x.advantage(0, true), -14);
        DuelFrames y = with(4, 2, 8, 22, DuelFrames.MID, 100);
        Check.same("in reach", y.advantage(0, false), 10);
        Check.same("who blocks goes out of it", y.advantage(0, true), -14);
        DuelFrames z = with(4, 2, 8, 23, DuelFrames.MID, 100);
        Check.same("who blocks is in reach in its first frame", z.advantage(0, true), 2);
        DuelFrames low = with(4, 2, 8, 20, DuelFrames.LOW, 100);
        Check.same("who blocks low stays", low.advantage(0, true), 2);
    }

    private static void punishes() {
        DuelFrames x = with(4, 2, 8, 40, DuelFrames.MID, 100);
        x.move(8, 3, 15, 60, DuelFrames.HIGH, 150);
        x.move(3, 1, 20, 30, DuelFrames.THROW, 120);
        x.move(5, 1, 5, 60, DuelFrames.MID, 10);
        // Move 1 is blocked in the frame 9, till behind the frame 20, and free behind the frame 26.
        Check.same("in its recovery", x.punish(1, 0), 120);
        Check.same("in its last frame", x.punish(1, 3), 12);
        x.patch(1, 1, 13);
        Check.same("a frame too late: guarded", x.punish(1, 3), 1);
        x.patch(1, 1, 12);
        Check.same("not in time", x.punish(0, 0), 0);
        Check.same("a throw can't be blocked", x.punish(2, 0), 0);
        x.patch(1, 1, 1);
        Check.same("it never BLOCKS behind a frame", x.punish(1, 0), 0);
        x.patch(1, 1, 2);
        Check.same("it does behind one", x.punish(1, 0), 120);
        x.patch(0, 3, 60);
        Check.same("there is meter for it", x.punish(1, 0), 120);
        // Blocked in the frame 31, free behind the frame 90, thrown in the frame 121.
        DuelFrames late = with(30, 10, 40, 150, DuelFrames.MID, 10);
        late.move(30, 1, 1, 150, DuelFrames.THROW, 70);
        late.patch(0, 1, 60);
        late.patch(0, 2, 0);
        Check.same("late", late.punish(0, 1), 70);
    }

    private static void punishesThatAreGuarded() {
        // Blocked in the frame 2, till behind the frame 13: the figure 0 is free behind the frame 3.
        DuelFrames x = with(1, 1, 1, 150, DuelFrames.MID, 50);
        x.move(3, 1, 3, 150, DuelFrames.HIGH, 99);
        x.move(3, 1, 3, 150, DuelFrames.LOW, 88);
        x.move(3, 1, 3, 150, DuelFrames.MID, 77);
        x.move(3, 1, 3, 150, DuelFrames.THROW, 66);
        x.patch(0, 2, 0);
        Check.same("guarded with 2", x.punish(0, 1), 9);
        Check.same("guarded with 4", x.punish(0, 2), 8);
        Check.same("guarded with both", x.punish(0, 3), 7);
        Check.same("not to be guarded", x.punish(0, 4), 66);
        DuelFrames low = with(3, 1, 30, 150, DuelFrames.LOW, 50);
        low.move(3, 1, 3, 150, DuelFrames.HIGH, 100);
        Check.same("a low one is punished", low.punish(0, 1), 120);
    }

    private static DuelFrames withRows() {
        DuelFrames x = with(4, 2, 8, 40, DuelFrames.MID, 100);
        x.move(8, 3, 15, 60, DuelFrames.HIGH, 150);
        x.cancel(0, 1, true);
        x.patch(1, 3, 20);
        x.patch(0, 4, 10);
        return x;
    }

    private static void row(String what, DuelFrames x, int first, int hits, int meter, int... want) {
        for (int i = 0; i <= want.length; i++) {
            Check.same(what + ", place " + i, x.mostAt(first, hits, meter, i),
                    i < want.length ? want[i] : DuelFrames.NONE);
        }
        Check.same(what + ", far behind", x.mostAt(first, hits, meter, Integer.MAX_VALUE), DuelFrames.NONE);
    }

    private static void rows() {
        DuelFrames x = withRows();
        Check.same("one hit", x.most(0, 1, 100), 100);
        row("one hit", x, 0, 1, 100, 0);
        Check.same("two hits", x.most(0, 2, 0), 190);
        row("two hits", x, 0, 2, 0, 0, 0);
        Check.same("two with meter", x.most(0, 2, 40), 235);
        row("two with meter", x, 0, 2, 40, 0, 1);
    }

    private static void rowsByMeter() {
        DuelFrames x = withRows();
        Check.same("20 are there behind the first hit", x.most(0, 2, 10), 235);
        Check.same("19 are not enough", x.most(0, 2, 9), 190);
        Check.same("the first one costs 20", x.most(1, 1, 20), 150);
        Check.same("there are 19", x.most(1, 1, 19), 0);
        row("there are 19", x, 1, 1, 19);
        Check.same("it is out of range of nothing else", x.mostAt(1, 1, 20, 0), 1);
    }

    private static void rowsInOrder() {
        // Twins: the row of the lesser numbers is told.
        DuelFrames x = with(5, 3, 10, 50, DuelFrames.MID, 50);
        x.move(5, 3, 10, 50, DuelFrames.MID, 50);
        for (int i = 0; i < 4; i++) {
            x.cancel(i / 2, i % 2, true);
        }
        x.patch(0, 0, 40);
        x.patch(1, 0, 40);
        x.patch(0, 2, 0);
        x.patch(1, 2, 0);
        Check.same("four hits", x.most(1, 4, 0), 50 + 45 + 40 + 35);
        row("four hits", x, 1, 4, 0, 1, 0, 0, 0);
        Check.same("three hits", x.most(1, 3, 0), 50 + 45 + 40);
        row("three hits", x, 1, 3, 0, 1, 0, 0);
        // A hit that takes nothing brings no more: the row that ends ahead of it comes first.
        DuelFrames y = with(5, 3, 10, 50, DuelFrames.MID, 1);
        y.patch(0, 0, 60);
        y.patch(0, 2, 0);
        Check.same("1 times 9 by 10 is 0", y.most(0, 4, 0), 1);
        row("the shorter one", y, 0, 4, 0, 0);
    }

    private static void rowsWithoutHits() {
        DuelFrames x = with(4, 2, 8, 19, DuelFrames.MID, 100);
        Check.same("out of reach", x.most(0, 4, 100), 0);
        row("out of reach", x, 0, 4, 100);
        DuelFrames y = with(4, 2, 8, 40, DuelFrames.MID, 100);
        y.patch(0, 0, 1);
        Check.same("the count is not more behind the frame", y.most(0, 4, 100), 0);
        row("the count is not more behind the frame", y, 0, 4, 100);
        y.patch(0, 0, 2);
        Check.same("it is more", y.most(0, 4, 100), 100);
        DuelFrames thrown = with(4, 2, 8, 40, DuelFrames.THROW, 100);
        thrown.patch(0, 0, 60);
        Check.same("a throw hits once", thrown.most(0, 4, 0), 100);
    }

    private static void rowsOfLongMoves() {
        // HIT for 60 frames, that of the hit with them: the next one comes 59 frames later, or 60.
        DuelFrames x = with(10, 9, 40, 150, DuelFrames.MID, 100);
        x.patch(0, 0, 60);
        Check.same("just in time", x.most(0, 2, 0), 190);
        Check.same("the stun is less by then", x.most(0, 3, 0), 190);
        DuelFrames y = with(10, 10, 40, 150, DuelFrames.MID, 100);
        y.patch(0, 0, 60);
        Check.same("a frame too late", y.most(0, 2, 0), 100);
        DuelFrames z = with(30, 10, 40, 150, DuelFrames.MID, 100);
        Check.same("the latest first hit", z.most(0, 2, 0), 100);
    }

    private static void rowsEndWhereTheCountIsNotMore() {
        // HIT in the frame 5 for so many frames; the next hit comes in the frame 19 at the soonest.
        DuelFrames x = with(4, 2, 8, 150, DuelFrames.MID, 100);
        x.patch(0, 0, 14);
        Check.same("free ahead of the hit", x.most(0, 2, 0), 100);
        x.patch(0, 0, 15);
        Check.same("HIT for one more frame", x.most(0, 2, 0), 190);
        Check.same("but not a third time", x.most(0, 3, 0), 190);
        // The second hit stuns for 2 less, and one frame is over with that of the hit.
        DuelFrames y = with(4, 2, 8, 150, DuelFrames.MID, 100);
        y.move(4, 2, 8, 150, DuelFrames.MID, 100);
        y.patch(0, 0, 30);
        y.patch(1, 0, 3);
        Check.same("the stun of the second is over at once", y.most(0, 2, 0), 190);
        Check.same("so the row is of the first", y.mostAt(0, 2, 0, 1), 0);
        y.patch(0, 0, 15);
        y.patch(1, 0, 60);
        Check.same("the second links, and stuns for long", y.most(0, 3, 0), 100 + 90 + 80);
        row("the second links, and stuns for long", y, 0, 3, 0, 0, 1, 0);
        y.cancel(0, 1, true);
        Check.same("the second by a cancel, then the first", y.most(0, 3, 0), 100 + 90 + 80);
        row("the second by a cancel, then the first", y, 0, 3, 0, 0, 0, 1);
    }

    private static void exceptions() {
        DuelFrames x = with(4, 2, 8, 40, DuelFrames.MID, 100);
        for (int move : new int[] {-1, 1, 6, Integer.MIN_VALUE, Integer.MAX_VALUE}) {
            Check.outOfBounds("advantage", () -> x.advantage(move, true));
            Check.outOfBounds("punish", () -> x.punish(move, 0));
            Check.outOfBounds("punish by", () -> x.punish(0, move));
            Check.outOfBounds("most", () -> x.most(move, 0, 101));
            Check.outOfBounds("mostAt", () -> x.mostAt(move, 0, 101, 0));
        }
        for (int hits : new int[] {0, 5, -1, Integer.MIN_VALUE, Integer.MAX_VALUE}) {
            Check.outOfRange("most", () -> x.most(0, hits, 0));
            Check.outOfRange("mostAt", () -> x.mostAt(0, hits, 0, 0));
        }
        for (int meter : new int[] {-1, 101, Integer.MIN_VALUE, Integer.MAX_VALUE}) {
            Check.outOfRange("most", () -> x.most(0, 1, meter));
            Check.outOfRange("mostAt", () -> x.mostAt(0, 1, meter, 0));
        }
        Check.outOfBounds("a place below 0", () -> x.mostAt(0, 1, 0, -1));
        Check.outOfBounds("the place is looked at first", () -> x.mostAt(0, 0, 0, Integer.MIN_VALUE));
    }

    private static void leavesRoundsAlone() {
        DuelFrames x = withRows();
        x.begin(40);
        x.play(3, 10, 1);
        int[] ahead = new int[16];
        for (int i = 0; i < 16; i++) {
            ahead[i] = x.of(i / 8, i % 8);
        }
        Check.same("in a round", x.most(0, 2, 40), 235);
        Check.same("in a round", x.mostAt(0, 2, 40, 1), 1);
        Check.same("in a round", x.advantage(0, false), 10);
        Check.same("in a round", x.punish(1, 0), 120);
        for (int i = 0; i < 16; i++) {
            Check.same("of(" + i / 8 + ", " + i % 8 + ")", x.of(i / 8, i % 8), ahead[i]);
        }
        Check.same("the round goes on", x.play(1, 0, 0), 4);
    }
}
