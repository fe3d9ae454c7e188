/** Promises 11 to 14 and the chapter 'The laboratory': a test of its own for each sentence that names a boundary case. */
public final class EdgesOfLabTest {
    private static final int NONE = DuelFrames.NONE;
    private static final int HIGH = DuelFrames.HIGH, LOW = DuelFrames.LOW, MID = DuelFrames.MID;
    private static final int THROW = DuelFrames.THROW;
    private static final int FAR_BELOW = Integer.MIN_VALUE, FAR_ABOVE = Integer.MAX_VALUE;

    public static void main(String[] args) {
        theFiguresAreTwentyApart();
        aHundredForTheMeters();
        advantageOfAMove();
        advantageByTheHitStun();
        advantageByTheBlockStun();
        advantageOfTheShortestAndTheLongest();
        advantageBelowNothing();
        advantageIfTheOtherOneAlwaysStands();
        blocksBehindAsManyAsTheStartup();
        blocksLowForALowOneAlone();
        punishOfAMove();
        punishInTheLastFrame();
        punishAFrameLater();
        punishIsTheLesserOfBoth();
        punishByGoingOutOfReach();
        punishInReach();
        punishOnceAlone();
        punishIfItBlocksBehindAFrame();
        punishOfWhatIsNotBlocked();
        punishByItself();
        punishInTwoHundredFrames();
        mostOfAMove();
        mostHits();
        mostMeter();
        firstLineOfMost();
        atMostSoManyHits();
        mostByTheMeter();
        mostByTheGain();
        theMeterIsAHundredAtMost();
        theFirstOneDoesNotHit();
        theFirstOneDoesNotCount();
        aLaterOneDoesNotCount();
        behindNoneAheadOfThatLess();
        oneOfTheNextSixtyFrames();
        tillItBeginsThenNothing();
        pushedOutOfReach();
        throwsOfWhoIsHit();
        firstByNumbers();
        theOneWithWhichAnotherBegins();
        mostAtOfAMove();
        mostAtHitsAndMeter();
        placeOfTheFirstOne();
        placeBelowNothing();
        placeBeyondTheRow();
        theMovesAsTheyAreByNow();
        Check.end("EdgesOfLabTest");
    }

    // "In it the figures are at 290 and 310"
    private static void theFiguresAreTwentyApart() {
        for (int reach : new int[] {1, 19, 20, 21}) {
            Sided x = Scene.with(4, 2, 8, reach, MID, 100);
            Check.same("most with the reach " + reach, x.most(0, 1, 0), reach >= 20 ? 100 : 0);
            Check.same("mostAt with the reach " + reach, x.mostAt(0, 1, 0, 0), reach >= 20 ? 0 : NONE);
            Check.same("advantage with the reach " + reach, x.advantage(0, false), reach >= 20 ? 10 : -14);
        }
    }

    // "and 100 for the meters"
    private static void aHundredForTheMeters() {
        Sided x = Scene.with(4, 2, 8, 150, MID, 100);
        x.move(8, 3, 15, 150, HIGH, 150);
        for (int cost = 59; cost <= 60; cost++) {
            x.patch(0, 3, cost);
            x.patch(1, 3, cost);
            Check.same("advantage at " + cost, x.advantage(0, false), 10);
            Check.same("advantage blocked at " + cost, x.advantage(0, true), 2);
            Check.same("punish at " + cost, x.punish(1, 0), 120);
        }
    }

    // ---- advantage

    // "move: a move", "Throws IndexOutOfBoundsException if there is no such move"
    private static void advantageOfAMove() {
        for (int count = 0; count <= 6; count += 3) {
            Sided x = new Sided();
            for (int i = 0; i < count; i++) {
                x.move(4, 2, 8 + i, 40, MID, 100);
            }
            for (int move : new int[] {-1, count, FAR_BELOW, FAR_ABOVE}) {
                Check.outOfBounds("hit, " + move + " of " + count, () -> x.advantage(move, false));
                Check.outOfBounds("blocked, " + move + " of " + count, () -> x.advantage(move, true));
            }
            for (int i = 0; i < count; i++) {
                Check.same("hit, " + i + " of " + count, x.advantage(i, false), 10 - i);
                Check.same("blocked, " + i + " of " + count, x.advantage(i, true), 2 - i);
            }
        }
    }

    // "the number of frames behind which the figure 1 STANDS for good (0, if it always does)"
    private static void advantageByTheHitStun() {
        Sided x = Scene.with(4, 2, 8, 40, MID, 100);
        for (int stun = 0; stun <= 60; stun++) {
            x.patch(0, 0, stun);
            Check.same("hit stun " + stun, x.advantage(0, false), (stun >= 2 ? 4 + stun : 0) - 14);
            Check.same("not of the block", x.advantage(0, true), 16 - 14);
        }
    }

    private static void advantageByTheBlockStun() {
        Sided x = Scene.with(4, 2, 8, 40, MID, 100);
        for (int stun = 0; stun <= 60; stun++) {
            x.patch(0, 1, stun);
            Check.same("block stun " + stun, x.advantage(0, true), (stun >= 2 ? 4 + stun : 0) - 14);
            Check.same("not of the hit", x.advantage(0, false), 24 - 14);
        }
    }

    private static void advantageOfTheShortestAndTheLongest() {
        Sided x = Scene.with(1, 1, 1, 150, MID, 1);
        Check.same("the shortest, hit", x.advantage(0, false), 21 - 3);
        Check.same("the shortest, blocked", x.advantage(0, true), 13 - 3);
        Sided y = Scene.with(30, 10, 40, 150, MID, 1);
        Check.same("the longest, hit", y.advantage(0, false), 50 - 80);
        Check.same("the longest, blocked", y.advantage(0, true), 42 - 80);
        y.patch(0, 0, 60);
        y.patch(0, 1, 60);
        Check.same("the longest of all, hit", y.advantage(0, false), 90 - 80);
        Check.same("the longest of all, blocked", y.advantage(0, true), 90 - 80);
    }

    // "Returns the frames, below 0 if the figure 1 is free first."
    private static void advantageBelowNothing() {
        Sided x = Scene.with(4, 2, 8, 40, MID, 100);
        x.patch(0, 0, 9);
        Check.same("the figure 1 a frame ahead", x.advantage(0, false), -1);
        x.patch(0, 0, 10);
        Check.same("both in one frame", x.advantage(0, false), 0);
        x.patch(0, 0, 11);
        Check.same("the figure 0 a frame ahead", x.advantage(0, false), 1);
    }

    private static void advantageIfTheOtherOneAlwaysStands() {
        Sided x = Scene.with(4, 2, 8, 19, MID, 100);
        Check.same("out of reach", x.advantage(0, false), -14);
        Check.same("out of reach, going back", x.advantage(0, true), -14);
        Sided y = Scene.with(1, 1, 1, 19, MID, 100);
        Check.same("the shortest", y.advantage(0, false), -3);
        Sided z = Scene.with(30, 10, 40, 19, MID, 100);
        Check.same("the longest", z.advantage(0, false), -80);
    }

    // "to block, in all frames behind as many as the startup": it goes back by 3 in the first active one
    private static void blocksBehindAsManyAsTheStartup() {
        for (int startup : new int[] {1, 4, 30}) {
            for (int reach : new int[] {22, 23}) {
                Sided x = Scene.with(startup, 10, 1, reach, MID, 100);
                int reached = startup + 12;
                int free = startup + 11;
                String what = "startup " + startup + ", reach " + reach;
                Check.same(what, x.advantage(0, true), (reach == 23 ? reached : 0) - free);
                Check.same(what + ", hit", x.advantage(0, false), startup + 20 - free);
            }
        }
    }

    // "4 for a LOW one, otherwise 2"
    private static void blocksLowForALowOneAlone() {
        for (int kind = HIGH; kind <= THROW; kind++) {
            for (int reach : new int[] {19, 20, 22, 23}) {
                Sided x = Scene.with(4, 1, 9, reach, kind, 100);
                boolean isReached = reach >= (kind == LOW ? 20 : 23);
                int stun = kind == THROW ? 20 : 12;
                String what = "kind " + kind + ", reach " + reach;
                Check.same(what, x.advantage(0, true), (isReached ? 4 + stun : 0) - 14);
            }
        }
    }

    // ---- punish

    /** Move 0 is blocked in the frame 9; who blocks is free in 21, who strikes behind 26. */
    private static Sided toPunish(int startup, int reach, int kind, int damage) {
        Sided x = Scene.with(8, 3, 15, 60, HIGH, 150);
        x.move(startup, 1, 5, reach, kind, damage);
        return x;
    }

    // "move: the other one, that is blocked", "by: the punishing one", "if there is no such move, of either"
    private static void punishOfAMove() {
        Sided none = new Sided();
        Check.outOfBounds("there is none", () -> none.punish(0, 0));
        Sided x = toPunish(4, 40, MID, 100);
        for (int move : new int[] {-1, 2, FAR_BELOW, FAR_ABOVE}) {
            Check.outOfBounds("move " + move, () -> x.punish(move, 0));
            Check.outOfBounds("by " + move, () -> x.punish(0, move));
            Check.outOfBounds("both " + move, () -> x.punish(move, move));
        }
        Check.same("0 by 1", x.punish(0, 1), 120);
        Check.same("1 by 0: with 2 the figure 0 goes out of reach", x.punish(1, 0), 0);
    }

    // "STANDS again ahead of a later one; in that frame it has the punishing move"
    private static void punishInTheLastFrame() {
        for (int kind = HIGH; kind <= THROW; kind++) {
            for (int startup = 1; startup <= 5; startup++) {
                Sided x = toPunish(startup, 150, kind, 100);
                Check.same("kind " + kind + ", startup " + startup, x.punish(0, 1), 120);
            }
        }
    }

    private static void punishAFrameLater() {
        for (int kind = HIGH; kind <= THROW; kind++) {
            Sided x = toPunish(6, 150, kind, 100);
            Check.same("kind " + kind, x.punish(0, 1), kind == THROW ? 100 : 10);
            Sided y = toPunish(5, 150, kind, 100);
            y.patch(0, 1, 13);
            Check.same("kind " + kind + ", free a frame later", y.punish(0, 1), kind == THROW ? 100 : 10);
            Sided z = toPunish(6, 150, kind, 100);
            z.patch(0, 1, 11);
            Check.same("kind " + kind + ", free a frame sooner", z.punish(0, 1), 120);
        }
    }

    // "The figure 0 has, behind its first frame, 2, or, tried as well, 4, .. the lesser of both losses"
    private static void punishIsTheLesserOfBoth() {
        int[] tenths = {9, 10, 19, 20};
        for (int damage : tenths) {
            Sided x = toPunish(6, 150, HIGH, damage);
            Check.same("blocked high, damage " + damage, x.punish(0, 1), damage / 10);
            Sided y = toPunish(6, 150, LOW, damage);
            Check.same("blocked low, damage " + damage, y.punish(0, 1), damage / 10);
            Sided z = toPunish(6, 150, MID, damage);
            Check.same("blocked with both, damage " + damage, z.punish(0, 1), damage / 10);
        }
    }

    /** With 2 the figure 0 goes back by 3 in the frame in which it could be hit: 36 apart then. */
    private static void punishByGoingOutOfReach() {
        Sided x = toPunish(6, 35, THROW, 100);
        Check.same("out of reach with 2", x.punish(0, 1), 0);
        Sided y = toPunish(6, 36, THROW, 100);
        Check.same("not quite", y.punish(0, 1), 100);
    }

    /** Who blocks a high one has gone back by 3, and is pushed by 10; a low one by 10 alone. */
    private static void punishInReach() {
        for (int reach = 32; reach <= 33; reach++) {
            Check.same("high, reach " + reach, toPunish(4, reach, MID, 100).punish(0, 1), reach == 33 ? 120 : 0);
        }
        for (int reach = 29; reach <= 30; reach++) {
            Sided x = Scene.with(8, 3, 15, 60, LOW, 150);
            x.move(4, 1, 5, reach, MID, 100);
            Check.same("low, reach " + reach, x.punish(0, 1), reach == 30 ? 120 : 0);
        }
    }

    // "in that frame it has the punishing move, then nothing"
    private static void punishOnceAlone() {
        Sided x = Scene.with(1, 1, 40, 150, MID, 1);
        x.move(1, 1, 1, 150, MID, 100);
        x.patch(0, 1, 2);
        Check.same("though there was time for more", x.punish(0, 1), 120);
    }

    // "until it BLOCKS behind a frame", "0 if it never BLOCKS behind a frame"
    private static void punishIfItBlocksBehindAFrame() {
        Sided x = toPunish(4, 150, MID, 100);
        int[] due = {0, 0, 120, 120};
        for (int stun = 0; stun < due.length; stun++) {
            x.patch(0, 1, stun);
            Check.same("block stun " + stun, x.punish(0, 1), due[stun]);
        }
        x.patch(0, 1, 60);
        Check.same("block stun 60: with 2 the figure 0 goes out of reach", x.punish(0, 1), 0);
    }

    // "Returns the loss; 0 if it was not blocked."
    private static void punishOfWhatIsNotBlocked() {
        Sided x = Scene.with(8, 3, 15, 60, THROW, 150);
        x.move(1, 1, 1, 150, MID, 100);
        Check.same("a THROW", x.punish(0, 1), 0);
        for (int reach = 22; reach <= 23; reach++) {
            Sided y = Scene.with(8, 3, 15, reach, HIGH, 150);
            y.move(1, 1, 1, 150, MID, 100);
            Check.same("high, reach " + reach, y.punish(0, 1), reach == 23 ? 120 : 0);
        }
        for (int reach = 19; reach <= 20; reach++) {
            Sided y = Scene.with(8, 3, 15, reach, LOW, 150);
            y.move(1, 1, 1, 150, MID, 100);
            Check.same("low, reach " + reach, y.punish(0, 1), reach == 20 ? 120 : 0);
        }
    }

    private static void punishByItself() {
        Sided x = Scene.with(2, 1, 30, 150, MID, 100);
        Check.same("a slow one by itself", x.punish(0, 0), 120);
        Sided y = Scene.with(2, 1, 5, 150, MID, 100);
        Check.same("a quick one by itself", y.punish(0, 0), 10);
    }

    // "in 200 frames": blocked in the frame 31, free behind the 90th; the slowest THROW comes in the frame 121
    private static void punishInTwoHundredFrames() {
        for (int recovery = 37; recovery <= 40; recovery++) {
            Sided x = Scene.with(30, 10, recovery, 150, LOW, 10);
            x.move(30, 10, 40, 150, THROW, 200);
            x.patch(0, 1, 60);
            x.patch(0, 2, 0);
            // With 2 it goes back by 3 in each frame behind its recovery, till the 121st: 20 and 129 are in reach.
            Check.same("recovery " + recovery, x.punish(0, 1), recovery >= 38 ? 200 : 0);
        }
    }

    // ---- most

    /** It hits from afar, again and again; at most 28 hits in a row. */
    private static Sided withLoop(int damage) {
        Sided x = Scene.withQuick(MID, damage);
        x.patch(0, 0, 60);
        x.patch(0, 2, 0);
        return x;
    }

    // "move: the first one", "Throws IndexOutOfBoundsException if there is no such move"
    private static void mostOfAMove() {
        Sided none = new Sided();
        Check.outOfBounds("there is none", () -> none.most(0, 1, 0));
        Sided x = withLoop(100);
        for (int move : new int[] {-1, 1, FAR_BELOW, FAR_ABOVE}) {
            Check.outOfBounds("move " + move, () -> x.most(move, 1, 0));
        }
        Check.same("move 0", x.most(0, 1, 0), 100);
    }

    // "hits: 1 to 4"
    private static void mostHits() {
        Sided x = withLoop(100);
        for (int hits : new int[] {0, 5, -1, FAR_BELOW, FAR_ABOVE}) {
            Check.outOfRange("hits " + hits, () -> x.most(0, hits, 0));
        }
        Check.same("hits 1", x.most(0, 1, 0), 100);
        Check.same("hits 4", x.most(0, 4, 0), 340);
    }

    // "meter: 0 to 100"
    private static void mostMeter() {
        Sided x = withLoop(100);
        for (int meter : new int[] {-1, 101, FAR_BELOW, FAR_ABOVE}) {
            Check.outOfRange("meter " + meter, () -> x.most(0, 1, meter));
        }
        Check.same("meter 0", x.most(0, 1, 0), 100);
        Check.same("meter 100", x.most(0, 1, 100), 100);
    }

    // "The first line of a method's throws clause that applies decides"
    private static void firstLineOfMost() {
        Sided x = withLoop(100);
        Check.outOfBounds("the move, then the hits", () -> x.most(1, 0, 0));
        Check.outOfBounds("the move, then the meter", () -> x.most(-1, 1, 101));
        Check.outOfBounds("mostAt: the move, then the hits", () -> x.mostAt(1, 5, 0, 0));
        Check.outOfBounds("mostAt: the move, then the meter", () -> x.mostAt(1, 1, -1, 0));
        Check.outOfBounds("mostAt: the place, then the hits", () -> x.mostAt(0, 0, 0, -1));
        Check.outOfBounds("mostAt: the place, then the meter", () -> x.mostAt(0, 1, 101, -1));
        Check.outOfBounds("mostAt: the move and the place", () -> x.mostAt(1, 1, 0, -1));
    }

    // "at most so many"
    private static void atMostSoManyHits() {
        int[] hundreds = {100, 190, 270, 340};
        int[] twoHundreds = {200, 380, 540, 680};
        for (int hits = 1; hits <= 4; hits++) {
            Check.same(hits + " of 100", withLoop(100).most(0, hits, 0), hundreds[hits - 1]);
            Check.same(hits + " of 200", withLoop(200).most(0, hits, 0), twoHundreds[hits - 1]);
            for (int place = 0; place <= 4; place++) {
                Check.same(hits + " hits, place " + place, withLoop(100).mostAt(0, hits, 0, place), place < hits ? 0 : NONE);
            }
        }
        // Fewer, if there are no more: the third one comes out of reach.
        Sided x = Scene.with(1, 1, 1, 39, MID, 100);
        x.patch(0, 0, 60);
        for (int hits = 2; hits <= 4; hits++) {
            Check.same("two of " + hits, x.most(0, hits, 0), 190);
            Check.same("the second of " + hits, x.mostAt(0, hits, 0, 1), 0);
            Check.same("no third of " + hits, x.mostAt(0, hits, 0, 2), NONE);
        }
    }

    // "the meter of the figure 0 is as told there"
    private static void mostByTheMeter() {
        for (int cost : new int[] {0, 1, 59, 60}) {
            Sided x = withLoop(100);
            x.patch(0, 3, cost);
            Check.same("cost " + cost + " of it", x.most(0, 1, cost), 100);
            Check.same("cost " + cost + " of 100", x.most(0, 1, 100), 100);
            if (cost > 0) {
                Check.same("cost " + cost + " of one less", x.most(0, 1, cost - 1), 0);
                Check.same("cost " + cost + " of one less: none", x.mostAt(0, 1, cost - 1, 0), NONE);
            }
        }
    }

    private static void mostByTheGain() {
        Sided x = withLoop(100);
        x.patch(0, 3, 20);
        x.patch(0, 4, 5);
        Check.same("20, then 5", x.most(0, 2, 20), 100);
        Check.same("34, then 19", x.most(0, 2, 34), 100);
        Check.same("35, then 20", x.most(0, 2, 35), 190);
        Check.same("49, 34, 19", x.most(0, 3, 49), 190);
        Check.same("50, 35, 20", x.most(0, 3, 50), 270);
        Check.same("65, 50, 35, 20", x.most(0, 4, 65), 340);
        Check.same("64, 49, 34, 19", x.most(0, 4, 64), 270);
    }

    private static void theMeterIsAHundredAtMost() {
        Sided x = withLoop(100);
        x.move(1, 1, 1, 150, MID, 200);
        x.patch(0, 4, 60);
        x.patch(1, 0, 60);
        x.patch(1, 2, 0);
        x.patch(1, 3, 60);
        x.patch(1, 4, 0);
        Check.same("100 and 60 more are 100: one of 60 alone", x.most(0, 3, 100), 100 + 180 + 80);
        x.patch(1, 3, 50);
        Check.same("two of 50", x.most(0, 3, 100), 100 + 180 + 160);
        x.patch(1, 3, 51);
        Check.same("not two of 51", x.most(0, 3, 100), 100 + 180 + 80);
    }

    // "Returns the loss; 0 if the first one does not hit."
    private static void theFirstOneDoesNotHit() {
        Sided x = Scene.with(1, 1, 1, 19, MID, 100);
        x.move(1, 1, 1, 150, MID, 100);
        for (int hits = 1; hits <= 4; hits++) {
            Check.same("out of reach, " + hits, x.most(0, hits, 100), 0);
            Check.same("none, " + hits, x.mostAt(0, hits, 100, 0), NONE);
            Check.same("no second, " + hits, x.mostAt(0, hits, 100, 1), NONE);
        }
    }

    // "a hit behind whose frame the count is not more does not count, nor does the first one"
    private static void theFirstOneDoesNotCount() {
        for (int stun = 0; stun <= 2; stun++) {
            Sided x = Scene.with(4, 2, 8, 40, MID, 100);
            x.patch(0, 0, stun);
            Check.same("hit stun " + stun, x.most(0, 1, 0), stun == 2 ? 100 : 0);
            Check.same("hit stun " + stun, x.mostAt(0, 1, 0, 0), stun == 2 ? 0 : NONE);
        }
    }

    private static void aLaterOneDoesNotCount() {
        // The first one is pushed out of its own reach; the stun of the second is 2 less.
        for (int stun = 0; stun <= 4; stun++) {
            Sided x = Scene.with(1, 1, 1, 29, MID, 100);
            x.move(1, 1, 1, 150, MID, 100);
            x.patch(0, 0, 60);
            x.patch(1, 0, stun);
            Check.same("hit stun " + stun + " of the second", x.most(0, 2, 0), stun == 4 ? 190 : 100);
            Check.same("hit stun " + stun + " of the second", x.mostAt(0, 2, 0, 1), stun == 4 ? 1 : NONE);
        }
    }

    // "behind none ahead of that less": free behind the frame 4 + stun, hit once more in the frame 19
    private static void behindNoneAheadOfThatLess() {
        int[] stuns = {13, 14, 15, 16, 17, 18, 19};
        int[] due = {100, 100, 190, 190, 270, 270, 340};
        for (int i = 0; i < stuns.length; i++) {
            Sided x = Scene.with(4, 2, 8, 150, MID, 100);
            x.patch(0, 0, stuns[i]);
            Check.same("hit stun " + stuns[i], x.most(0, 4, 0), due[i]);
        }
    }

    // "it counts if behind one of the next 60 frames the count of the figure 1 is more"
    private static void oneOfTheNextSixtyFrames() {
        for (int active = 9; active <= 10; active++) {
            Sided x = Scene.with(10, active, 40, 150, MID, 100);
            x.patch(0, 0, 60);
            // The stun of 60 is over behind the 59th frame behind the hit.
            Check.same("the next one " + (50 + active) + " frames later", x.most(0, 2, 0), active == 9 ? 190 : 100);
        }
        // "the first hit coming in at most 60 frames, too"
        Sided y = Scene.with(30, 10, 40, 150, MID, 100);
        Check.same("the slowest first one", y.most(0, 4, 0), 100);
    }

    // "its input in each frame behind that until it begins, then nothing"
    private static void tillItBeginsThenNothing() {
        // 38 frames of recovery: the input is kept for 5, so it is there in each frame.
        Sided x = Scene.with(1, 1, 38, 150, MID, 100);
        x.patch(0, 0, 60);
        Check.same("it waits for the end of the move", x.most(0, 2, 0), 190);
        // With the cancel it begins at once, with none it waits: both hit.
        x.cancel(0, 0, true);
        Check.same("it begins in the next frame", x.most(0, 4, 0), 340);
        // A third one is not tried by the second's inputs: two hits are two hits.
        Check.same("two of two", x.most(0, 2, 0), 190);
    }

    private static void pushedOutOfReach() {
        int[] reaches = {20, 29, 30, 39, 40, 49, 50};
        int[] due = {100, 100, 190, 190, 270, 270, 340};
        for (int i = 0; i < reaches.length; i++) {
            Sided x = Scene.with(1, 1, 1, reaches[i], MID, 100);
            x.patch(0, 0, 60);
            Check.same("reach " + reaches[i], x.most(0, 4, 0), due[i]);
        }
    }

    private static void throwsOfWhoIsHit() {
        Sided x = Scene.withQuick(THROW, 100);
        x.move(1, 1, 1, 150, MID, 100);
        x.patch(0, 0, 60);
        Check.same("a THROW first, then the other one", x.most(0, 2, 0), 190);
        Check.same("not a THROW", x.mostAt(0, 2, 0, 1), 1);
        Sided y = Scene.withQuick(THROW, 100);
        y.patch(0, 0, 60);
        Check.same("a THROW alone", y.most(0, 4, 0), 100);
    }

    // "the row that is first by numbers, one by one, of such"
    private static void firstByNumbers() {
        Sided x = new Sided();
        for (int i = 0; i < 6; i++) {
            x.move(1, 1, 1, 150, MID, 100);
            x.patch(i, 0, 60);
            x.patch(i, 2, 0);
        }
        for (int first = 0; first < 6; first++) {
            Check.same("the loss", x.most(first, 4, 0), 340);
            for (int place = 0; place < 4; place++) {
                Check.same("first " + first + ", place " + place, x.mostAt(first, 4, 0, place), place == 0 ? first : 0);
            }
        }
        // One by one: 0 1 0 is ahead of 0 1 1 and of 0 2 0, as 0 itself does not come second.
        Sided y = Scene.with(1, 1, 40, 20, MID, 100);
        y.move(1, 1, 1, 150, MID, 100);
        y.move(1, 1, 1, 150, MID, 100);
        for (int i = 0; i < 3; i++) {
            y.patch(i, 0, 60);
        }
        Check.same("0 1 1", y.most(0, 3, 0), 270);
        Check.same("0 1 1: the second", y.mostAt(0, 3, 0, 1), 1);
        Check.same("0 1 1: the third", y.mostAt(0, 3, 0, 2), 1);
    }

    // "one with which another one begins ahead of that"
    private static void theOneWithWhichAnotherBegins() {
        for (int damage = 1; damage <= 2; damage++) {
            Sided x = withLoop(damage);
            // A second hit of 1 takes 9 tenths of 1, that is 0; one of 2 takes 1.
            Check.same("damage " + damage, x.most(0, 4, 0), damage == 1 ? 1 : 2 + 1 + 1 + 1);
            Check.same("the first", x.mostAt(0, 4, 0, 0), 0);
            Check.same("the second", x.mostAt(0, 4, 0, 1), damage == 1 ? NONE : 0);
            Check.same("the fourth", x.mostAt(0, 4, 0, 3), damage == 1 ? NONE : 0);
        }
    }

    // ---- mostAt

    // "Throws IndexOutOfBoundsException if there is no such move .."
    private static void mostAtOfAMove() {
        Sided none = new Sided();
        Check.outOfBounds("there is none", () -> none.mostAt(0, 1, 0, 0));
        Sided x = withLoop(100);
        for (int move : new int[] {-1, 1, FAR_BELOW, FAR_ABOVE}) {
            Check.outOfBounds("move " + move, () -> x.mostAt(move, 1, 0, 0));
        }
        Check.same("move 0", x.mostAt(0, 1, 0, 0), 0);
    }

    private static void mostAtHitsAndMeter() {
        Sided x = withLoop(100);
        for (int hits : new int[] {0, 5, -1, FAR_BELOW, FAR_ABOVE}) {
            Check.outOfRange("hits " + hits, () -> x.mostAt(0, hits, 0, 0));
        }
        for (int meter : new int[] {-1, 101, FAR_BELOW, FAR_ABOVE}) {
            Check.outOfRange("meter " + meter, () -> x.mostAt(0, 1, meter, 0));
        }
        Check.outOfRange("whatever the place", () -> x.mostAt(0, 0, 0, FAR_ABOVE));
        Check.same("hits 1, meter 0", x.mostAt(0, 1, 0, 0), 0);
        Check.same("hits 4, meter 100", x.mostAt(0, 4, 100, 3), 0);
    }

    // "place: 0 for the first one"
    private static void placeOfTheFirstOne() {
        Sided x = withLoop(100);
        x.move(1, 1, 1, 150, MID, 200);
        x.patch(1, 0, 60);
        x.patch(1, 2, 0);
        Check.same("0 is the move itself", x.mostAt(0, 2, 0, 0), 0);
        Check.same("1 is the next one", x.mostAt(0, 2, 0, 1), 1);
        Check.same("0 is the move itself", x.mostAt(1, 1, 0, 0), 1);
    }

    // "or place is below 0"
    private static void placeBelowNothing() {
        Sided x = withLoop(100);
        Check.outOfBounds("-1", () -> x.mostAt(0, 1, 0, -1));
        Check.outOfBounds("far below", () -> x.mostAt(0, 4, 0, FAR_BELOW));
        Sided y = Scene.with(1, 1, 1, 1, MID, 100);
        Check.outOfBounds("-1 of no row", () -> y.mostAt(0, 1, 0, -1));
    }

    // "NONE if there are not so many"
    private static void placeBeyondTheRow() {
        for (int hits = 1; hits <= 4; hits++) {
            Sided x = withLoop(100);
            Check.same("the last of " + hits, x.mostAt(0, hits, 0, hits - 1), 0);
            Check.same("one beyond " + hits, x.mostAt(0, hits, 0, hits), NONE);
            Check.same("far beyond " + hits, x.mostAt(0, hits, 0, FAR_ABOVE), NONE);
        }
        // What an earlier call has found is no part of a later row.
        Sided y = withLoop(100);
        Check.same("four", y.mostAt(0, 4, 0, 3), 0);
        Check.same("then one", y.mostAt(0, 1, 0, 1), NONE);
    }

    private static void theMovesAsTheyAreByNow() {
        Sided x = withLoop(100);
        Check.same("four", x.most(0, 4, 0), 340);
        x.patch(0, 0, 2);
        Check.same("one", x.most(0, 4, 0), 100);
        Check.same("its advantage", x.advantage(0, false), 3 - 3);
        x.patch(0, 0, 60);
        x.begin(300);
        Check.same("four in a round", x.most(0, 4, 0), 340);
        Check.same("no frame of it is played", x.play(1, 0, 0), 1);
        Check.figure("and its figures are where they were", x, 0, 150, 1000, 0, DuelFrames.STANDS, NONE, 0, 0);
    }
}
