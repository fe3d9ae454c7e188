/**
 * A duel seen from one of its sides: from the right one the figure 1 is called 0, and places count from the right end.
 * What holds for both figures is tested once, and run from both sides.
 */
final class Sided {
    private static final int STAGE = 600;
    private static boolean isFromRight = false;

    private final DuelFrames duel = new DuelFrames();
    private final boolean isSwapped = isFromRight;
    /** Ahead of the first round a place is 0, whatever the side. */
    private boolean hasPlaces = false;

    /** From where the objects are seen that are made from now on. */
    static void seeFrom(int figure) {
        isFromRight = figure == 1;
    }

    int move(int startup, int active, int recovery, int reach, int kind, int damage) {
        return duel.move(startup, active, recovery, reach, kind, damage);
    }

    int patch(int move, int what, int value) {
        return duel.patch(move, what, value);
    }

    boolean cancel(int move, int into, boolean is) {
        return duel.cancel(move, into, is);
    }

    int begin(int apart) {
        int rounds = duel.begin(apart);
        hasPlaces = true;
        return rounds;
    }

    int play(int frames, int one, int two) {
        return isSwapped ? duel.play(frames, two, one) : duel.play(frames, one, two);
    }

    int of(int figure, int what) {
        return seen(what, duel.of(sided(figure), what));
    }

    int again(int frame, int figure, int what) {
        return seen(what, duel.again(frame, sided(figure), what));
    }

    boolean goesOn() {
        return duel.goesOn();
    }

    int winner() {
        return sided(duel.winner());
    }

    int advantage(int move, boolean isBlocked) {
        return duel.advantage(move, isBlocked);
    }

    int punish(int move, int by) {
        return duel.punish(move, by);
    }

    int most(int move, int hits, int meter) {
        return duel.most(move, hits, meter);
    }

    int mostAt(int move, int hits, int meter, int place) {
        return duel.mostAt(move, hits, meter, place);
    }

    /** A number that is none of a figure is left as it is. */
    private int sided(int figure) {
        return isSwapped && (figure == 0 || figure == 1) ? 1 - figure : figure;
    }

    private int seen(int what, int told) {
        return isSwapped && what == 0 && hasPlaces ? STAGE - told : told;
    }
}
