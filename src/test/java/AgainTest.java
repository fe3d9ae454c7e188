/** Promise 8: again. */
public final class AgainTest {
    private static final int FRAMES = 600;

    public static void main(String[] args) {
        exceptions();
        wholeRound();
        otherMovesByNow();
        laterRounds();
        Check.end("AgainTest");
    }

    private static DuelFrames withMoves() {
        DuelFrames x = new DuelFrames();
        x.move(4, 2, 8, 60, DuelFrames.MID, 40);
        x.move(3, 1, 9, 50, DuelFrames.LOW, 30);
        x.move(2, 1, 12, 35, DuelFrames.THROW, 25);
        x.cancel(0, 1, true);
        x.patch(1, 3, 5);
        x.patch(0, 4, 20);
        return x;
    }

    private static void exceptions() {
        DuelFrames x = withMoves();
        Check.outOfBounds("ahead of the first round", () -> x.again(0, 0, 0));
        Check.outOfBounds("ahead of it, with a wrong what", () -> x.again(0, 0, 7));
        x.begin(100);
        Check.same("the frame 0", x.again(0, 0, 0), 250);
        Check.outOfBounds("not played yet", () -> x.again(1, 0, 0));
        x.play(3, 0, 0);
        Check.same("the latest frame", x.again(3, 1, 0), 350);
        Check.outOfBounds("beyond it", () -> x.again(4, 0, 0));
        Check.outOfBounds("below 0", () -> x.again(-1, 0, 0));
        Check.outOfBounds("far below", () -> x.again(Integer.MIN_VALUE, 0, 0));
        Check.outOfBounds("far beyond", () -> x.again(Integer.MAX_VALUE, 0, 0));
        Check.outOfBounds("figure 2", () -> x.again(0, 2, 0));
        Check.outOfBounds("figure -1", () -> x.again(0, -1, 0));
        Check.outOfBounds("the figure is looked at first", () -> x.again(0, 2, 7));
        Check.outOfRange("what 7", () -> x.again(0, 0, 7));
        Check.outOfRange("what -1", () -> x.again(0, 0, -1));
        Check.same("the round goes on as it was", x.play(1, 0, 0), 4);
    }

    /** Inputs that differ from frame to frame, without a source of chance. */
    private static int input(int frame, int figure) {
        int mixed = (frame * 7919 + figure * 104729) % 1009;
        int[] inputs = {1, 1, 0, 2, 10, 11, 4, 12, 1, 10};
        return inputs[mixed % inputs.length];
    }

    private static int playNoting(DuelFrames x, int[] noted) {
        int frames = 0;
        note(x, noted, 0);
        while (x.goesOn()) {
            frames = x.play(1, input(frames, 0), input(frames, 1));
            note(x, noted, frames);
        }
        return frames;
    }

    private static void note(DuelFrames x, int[] noted, int frame) {
        for (int i = 0; i < 14; i++) {
            noted[frame * 14 + i] = x.of(i / 7, i % 7);
        }
    }

    private static void compare(DuelFrames x, int[] noted, int frames) {
        for (int frame = 0; frame <= frames; frame++) {
            for (int i = 0; i < 14; i++) {
                Check.same("again(" + frame + ", " + i / 7 + ", " + i % 7 + ")",
                        x.again(frame, i / 7, i % 7), noted[frame * 14 + i]);
            }
        }
    }

    private static void wholeRound() {
        DuelFrames x = withMoves();
        int[] noted = new int[(FRAMES + 1) * 14];
        x.begin(60);
        int frames = playNoting(x, noted);
        Check.yes("something has happened", x.of(0, 1) < 1000 && x.of(1, 1) < 1000);
        compare(x, noted, frames);
        Check.no("the round is still over", x.goesOn());
    }

    private static void otherMovesByNow() {
        DuelFrames x = withMoves();
        int[] noted = new int[(FRAMES + 1) * 14];
        x.begin(60);
        int frames = playNoting(x, noted);
        for (int move = 0; move < 3; move++) {
            for (int what = 0; what < 5; what++) {
                x.patch(move, what, 33);
            }
            x.cancel(move, 0, true);
            x.cancel(move, 1, move != 0);
        }
        x.move(1, 1, 1, 1, 0, 1);
        compare(x, noted, frames);
        x.advantage(0, true);
        x.most(0, 4, 100);
        compare(x, noted, frames);
    }

    private static void laterRounds() {
        DuelFrames x = withMoves();
        int[] noted = new int[(FRAMES + 1) * 14];
        x.begin(20);
        playNoting(x, noted);
        int left = x.of(0, 2);
        int right = x.of(1, 2);
        Check.yes("there is meter", left + right > 0);
        x.begin(80);
        Check.same("the meter as the round begins", x.again(0, 0, 2), left);
        Check.same("that of the other one", x.again(0, 1, 2), right);
        Check.outOfBounds("the round ahead is gone", () -> x.again(1, 0, 0));
        int frames = playNoting(x, noted);
        compare(x, noted, frames);
    }
}
