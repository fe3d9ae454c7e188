import java.util.ArrayList;
import java.util.List;
import java.util.function.Consumer;
import java.util.function.ToIntFunction;

/**
 * The chapter 'Exceptions': "a call that throws changes nothing." In each state each refused call is made on an object
 * of its own; then that object and one that was spared it are asked for all that can be seen of them.
 */
public final class RefusedTest {
    private static final int FAR_BELOW = Integer.MIN_VALUE, FAR_ABOVE = Integer.MAX_VALUE;
    private static final Class<?> BOUNDS = IndexOutOfBoundsException.class;
    private static final Class<?> RANGE = IllegalArgumentException.class;
    private static final Class<?> STATE = IllegalStateException.class;

    /** A state of an object: how it comes about, how many moves there are in it, and whether a round was or is on. */
    private record State(String name, int moves, boolean hasRound, boolean isOn, Consumer<Sided> calls) {
        Sided make() {
            Sided x = new Sided();
            calls.accept(x);
            return x;
        }
    }

    private record Refused(String name, Class<?> by, Consumer<Sided> call) {
    }

    public static void main(String[] args) {
        for (State state : states()) {
            List<Integer> due = seen(state.make());
            for (Refused refused : refusedIn(state)) {
                Sided x = state.make();
                String what = state.name + ", " + refused.name;
                Check.fails(what, refused.by, () -> refused.call.accept(x));
                Check.fails(what + ", once more", refused.by, () -> refused.call.accept(x));
                same(what, seen(x), due);
            }
        }
        Check.end("RefusedTest");
    }

    private static void same(String what, List<Integer> got, List<Integer> due) {
        Check.same(what + ": answers", got.size(), due.size());
        for (int i = 0; i < due.size() && i < got.size(); i++) {
            Check.same(what + ", then answer " + i, got.get(i), due.get(i));
        }
    }

    // ---- states

    private static List<State> states() {
        List<State> states = new ArrayList<>();
        states.add(new State("a new object", 0, false, false, x -> { }));
        states.add(new State("two moves", 2, false, false, x -> moves(x, 2)));
        states.add(new State("six moves", 6, false, false, x -> moves(x, 6)));
        states.add(new State("a round without moves", 0, true, true, x -> x.begin(100)));
        states.add(new State("a round with no frame yet", 2, true, true, RefusedTest::begun));
        states.add(new State("in a MOVE, HIT, with kept inputs", 2, true, true, RefusedTest::inTheMidst));
        states.add(new State("ahead of the last frame", 6, true, true, RefusedTest::aheadOfTheLast));
        states.add(new State("a round that is over by time", 2, true, false, RefusedTest::overByTime));
        states.add(new State("a round that is over by life", 6, true, false, RefusedTest::overByLife));
        states.add(new State("a set that is won", 2, true, false, RefusedTest::won));
        states.add(new State("a later round", 2, true, true, RefusedTest::laterRound));
        return states;
    }

    private static void moves(Sided x, int count) {
        x.move(1, 2, 5, 60, DuelFrames.MID, 200);
        x.move(3, 1, 8, 45, DuelFrames.THROW, 90);
        for (int i = 2; i < count; i++) {
            x.move(i, i, i, 30 + i, i % 4, 10 * i);
        }
        x.cancel(0, 1, true);
        x.cancel(0, 0, true);
        x.patch(0, 4, 17);
        x.patch(1, 3, 12);
    }

    private static void begun(Sided x) {
        moves(x, 2);
        x.begin(40);
    }

    private static void inTheMidst(Sided x) {
        begun(x);
        x.play(1, 10, 0);
        x.play(1, 0, 11);
    }

    private static void aheadOfTheLast(Sided x) {
        moves(x, 6);
        x.begin(20);
        x.play(3, 10, 1);
        Scene.wait(x, 595);
        x.play(1, 11, 10);
    }

    private static void overByTime(Sided x) {
        inTheMidst(x);
        Scene.waitOut(x);
    }

    private static void overByLife(Sided x) {
        moves(x, 6);
        x.patch(0, 2, 0);
        x.begin(20);
        x.play(60, 10, 0);
        Check.yes("over by life", x.of(1, 1) <= 0 && !x.goesOn());
    }

    private static void won(Sided x) {
        moves(x, 2);
        x.patch(0, 2, 0);
        for (int round = 0; round < 2; round++) {
            x.begin(20);
            x.play(60, 10, 0);
        }
        Check.same("the set is won", x.winner(), 0);
    }

    private static void laterRound(Sided x) {
        overByTime(x);
        x.patch(0, 2, 3);
        x.begin(30);
        x.play(2, 10, 2);
    }

    // ---- refused calls

    private static List<Refused> refusedIn(State state) {
        List<Refused> all = new ArrayList<>();
        moveRefused(all, state);
        patchRefused(all, state);
        cancelRefused(all, state);
        beginRefused(all, state);
        playRefused(all, state);
        toldRefused(all, state);
        labRefused(all, state);
        return all;
    }

    private static void moveRefused(List<Refused> all, State state) {
        int[] least = {1, 1, 1, 1, 0, 1};
        int[] greatest = {30, 10, 40, 150, 3, 200};
        for (int i = 0; i < 6; i++) {
            for (int value : new int[] {least[i] - 1, greatest[i] + 1, FAR_BELOW, FAR_ABOVE}) {
                int[] f = greatest.clone();
                f[i] = value;
                all.add(new Refused("move with " + value + " at " + i, RANGE, x -> x.move(f[0], f[1], f[2], f[3], f[4], f[5])));
            }
        }
        if (state.moves == 6 || state.isOn) {
            all.add(new Refused("move", STATE, x -> x.move(1, 1, 1, 1, 0, 1)));
            all.add(new Refused("move", STATE, x -> x.move(30, 10, 40, 150, 3, 200)));
        }
    }

    private static int[] noMoves(State state) {
        return new int[] {-1, state.moves, FAR_BELOW, FAR_ABOVE};
    }

    private static void patchRefused(List<Refused> all, State state) {
        for (int move : noMoves(state)) {
            all.add(new Refused("patch of " + move, BOUNDS, x -> x.patch(move, 0, 1)));
            all.add(new Refused("patch of " + move + ", all wrong", BOUNDS, x -> x.patch(move, 5, 61)));
        }
        for (int move = 0; move < state.moves; move++) {
            int m = move;
            for (int what : new int[] {-1, 5, FAR_BELOW, FAR_ABOVE}) {
                all.add(new Refused("patch of what " + what, RANGE, x -> x.patch(m, what, 1)));
            }
            for (int i = 0; i < 20; i++) {
                int what = i / 4;
                int value = new int[] {-1, 61, FAR_BELOW, FAR_ABOVE}[i % 4];
                all.add(new Refused("patch of " + what + " to " + value, RANGE, x -> x.patch(m, what, value)));
                if (state.isOn) {
                    all.add(new Refused("patch of " + what, STATE, x -> x.patch(m, what, 7)));
                }
            }
        }
    }

    private static void cancelRefused(List<Refused> all, State state) {
        for (int move : noMoves(state)) {
            all.add(new Refused("cancel of " + move, BOUNDS, x -> x.cancel(move, 0, true)));
            all.add(new Refused("cancel into " + move, BOUNDS, x -> x.cancel(0, move, true)));
            all.add(new Refused("cancel into " + move, BOUNDS, x -> x.cancel(state.moves - 1, move, false)));
        }
        if (state.isOn && state.moves > 1) {
            all.add(new Refused("cancel", STATE, x -> x.cancel(1, 0, true)));
            all.add(new Refused("cancel, not any more", STATE, x -> x.cancel(0, 1, false)));
            all.add(new Refused("cancel into itself", STATE, x -> x.cancel(1, 1, true)));
        }
    }

    private static void beginRefused(List<Refused> all, State state) {
        for (int apart : new int[] {18, 19, 21, 299, 301, 302, -20, 0, FAR_BELOW, FAR_ABOVE}) {
            all.add(new Refused("begin(" + apart + ")", RANGE, x -> x.begin(apart)));
        }
        if (state.isOn) {
            all.add(new Refused("begin(20)", STATE, x -> x.begin(20)));
            all.add(new Refused("begin(300)", STATE, x -> x.begin(300)));
        }
    }

    private static void playRefused(List<Refused> all, State state) {
        for (int frames : new int[] {0, 61, -1, FAR_BELOW, FAR_ABOVE}) {
            all.add(new Refused("play of " + frames, RANGE, x -> x.play(frames, 1, 2)));
        }
        for (int input : new int[] {-1, 5, 9, 10 + state.moves, FAR_BELOW, FAR_ABOVE}) {
            all.add(new Refused("play with " + input, RANGE, x -> x.play(1, input, 2)));
            all.add(new Refused("play against " + input, RANGE, x -> x.play(1, 1, input)));
            if (state.moves > 0) {
                all.add(new Refused("play of a move and " + input, RANGE, x -> x.play(60, 10, input)));
                all.add(new Refused("play of a move against " + input, RANGE, x -> x.play(60, input, 10)));
            }
        }
        if (!state.isOn) {
            all.add(new Refused("play", STATE, x -> x.play(1, 1, 2)));
            all.add(new Refused("play", STATE, x -> x.play(60, 0, 0)));
        }
        if (!state.isOn && state.moves > 0) {
            all.add(new Refused("play of a move", STATE, x -> x.play(1, 10, 10)));
        }
    }

    private static void toldRefused(List<Refused> all, State state) {
        for (int figure : new int[] {-1, 2, FAR_BELOW, FAR_ABOVE}) {
            all.add(new Refused("of the figure " + figure, BOUNDS, x -> x.of(figure, 0)));
            all.add(new Refused("of the figure " + figure + ", all wrong", BOUNDS, x -> x.of(figure, 8)));
            all.add(new Refused("again of the figure " + figure, BOUNDS, x -> x.again(0, figure, 0)));
        }
        for (int what : new int[] {-1, 8, FAR_BELOW, FAR_ABOVE}) {
            all.add(new Refused("of what " + what, RANGE, x -> x.of(0, what)));
            all.add(new Refused("again of what " + what, state.hasRound ? RANGE : BOUNDS, x -> x.again(0, 1, what)));
        }
        all.add(new Refused("again of what 7", state.hasRound ? RANGE : BOUNDS, x -> x.again(0, 0, 7)));
        for (int frame : new int[] {-1, 601, FAR_BELOW, FAR_ABOVE}) {
            all.add(new Refused("again in " + frame, BOUNDS, x -> x.again(frame, 0, 0)));
        }
    }

    private static void labRefused(List<Refused> all, State state) {
        for (int move : noMoves(state)) {
            all.add(new Refused("advantage of " + move, BOUNDS, x -> x.advantage(move, true)));
            all.add(new Refused("punish of " + move, BOUNDS, x -> x.punish(move, 0)));
            all.add(new Refused("punish by " + move, BOUNDS, x -> x.punish(0, move)));
            all.add(new Refused("most of " + move, BOUNDS, x -> x.most(move, 4, 100)));
            all.add(new Refused("mostAt of " + move, BOUNDS, x -> x.mostAt(move, 4, 100, 0)));
        }
        for (int place : new int[] {-1, FAR_BELOW}) {
            all.add(new Refused("mostAt the place " + place, BOUNDS, x -> x.mostAt(0, 0, 101, place)));
        }
        if (state.moves == 0) {
            return;
        }
        for (int hits : new int[] {0, 5, FAR_BELOW, FAR_ABOVE}) {
            all.add(new Refused("most of hits " + hits, RANGE, x -> x.most(0, hits, 100)));
            all.add(new Refused("mostAt of hits " + hits, RANGE, x -> x.mostAt(0, hits, 100, 0)));
        }
        for (int meter : new int[] {-1, 101, FAR_BELOW, FAR_ABOVE}) {
            all.add(new Refused("most of the meter " + meter, RANGE, x -> x.most(0, 4, meter)));
            all.add(new Refused("mostAt of the meter " + meter, RANGE, x -> x.mostAt(0, 4, meter, 0)));
        }
    }

    // ---- all that can be seen

    private static int answer(Sided x, ToIntFunction<Sided> call) {
        try {
            return call.applyAsInt(x);
        } catch (IndexOutOfBoundsException e) {
            return 1_000_001;
        } catch (IllegalArgumentException e) {
            return 1_000_002;
        } catch (IllegalStateException e) {
            return 1_000_003;
        }
    }

    /** Fewer than 400 calls, the last of which change the object. */
    private static List<Integer> seen(Sided x) {
        List<Integer> seen = new ArrayList<>();
        seeFigures(x, seen);
        for (int frame : new int[] {0, 1, 2, 5, 599, 600}) {
            for (int i = 0; i < 4; i++) {
                int which = i;
                seen.add(answer(x, y -> y.again(frame, which % 2, which / 2 * 5)));
            }
        }
        seeLab(x, seen);
        seePlay(x, seen);
        seeMoves(x, seen);
        seen.add(answer(x, y -> y.begin(50)));
        seen.add(answer(x, y -> y.play(1, 10, 0)));
        seeFigures(x, seen);
        return seen;
    }

    private static void seeFigures(Sided x, List<Integer> seen) {
        for (int i = 0; i < 16; i++) {
            seen.add(x.of(i / 8, i % 8));
        }
        seen.add(x.goesOn() ? 1 : 0);
        seen.add(x.winner());
    }

    private static void seeLab(Sided x, List<Integer> seen) {
        for (int i = 0; i < 3; i++) {
            int move = i;
            seen.add(answer(x, y -> y.advantage(move, false)));
            seen.add(answer(x, y -> y.advantage(move, true)));
            seen.add(answer(x, y -> y.punish(move, 0)));
            seen.add(answer(x, y -> y.most(move, 3, 20)));
            seen.add(answer(x, y -> y.mostAt(move, 3, 20, 1)));
        }
    }

    private static void seePlay(Sided x, List<Integer> seen) {
        for (int i = 0; i < 8; i++) {
            seen.add(answer(x, y -> y.play(1, 0, 0)));
        }
        for (int i = 0; i < 11 && x.goesOn(); i++) {
            int one = i % 3 == 2 ? 10 : 1;
            seen.add(answer(x, y -> y.play(60, one, 2)));
        }
        seeFigures(x, seen);
        for (int frame : new int[] {0, 3, 9, 300}) {
            seen.add(answer(x, y -> y.again(frame, 0, 0)));
            seen.add(answer(x, y -> y.again(frame, 1, 1)));
        }
    }

    private static void seeMoves(Sided x, List<Integer> seen) {
        for (int i = 0; i < 30; i++) {
            int which = i;
            seen.add(answer(x, y -> y.patch(which / 5, which % 5, 2)));
        }
        for (int i = 0; i < 36; i++) {
            int which = i;
            seen.add(answer(x, y -> y.cancel(which / 6, which % 6, true) ? 1 : 0));
        }
        seen.add(answer(x, y -> y.move(1, 1, 1, 150, DuelFrames.MID, 10)));
    }
}
