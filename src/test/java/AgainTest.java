import java.util.function.Consumer;
import java.util.function.Supplier;

/** Promise 8: again, for each frame of whole rounds. An object is asked for fewer than 512 calls: many are made. */
public final class AgainTest {
    private static final int FRAMES = 600;
    private static final int FRAMES_OF_AN_INPUT = 3;
    private static final int FRAMES_OF_AN_OBJECT = 15;

    public static void main(String[] args) {
        exceptions();
        wholeRound();
        otherMovesByNow();
        laterRounds();
        Check.end("AgainTest");
    }

    private static DuelFrames withMoves() {
        DuelFrames x = new DuelFrames();
        x.move(4, 2, 8, 60, DuelFrames.MID, 40);
        x.move(3, 1, 9, 50, DuelFrames.LOW, 30);
        x.move(2, 1, 12, 35, DuelFrames.THROW, 25);
        x.cancel(0, 1, true);
        x.patch(1, 3, 5);
        x.patch(0, 4, 20);
        return x;
    }

    private static void exceptions() {
        DuelFrames x = withMoves();
        Check.outOfBounds("ahead of the first round", () -> x.again(0, 0, 0));
        Check.outOfBounds("ahead of it, with a wrong what", () -> x.again(0, 0, 7));
        x.begin(100);
        Check.same("the frame 0", x.again(0, 0, 0), 250);
        Check.outOfBounds("not played yet", () -> x.again(1, 0, 0));
        x.play(3, 0, 0);
        Check.same("the latest frame", x.again(3, 1, 0), 350);
        Check.outOfBounds("beyond it", () -> x.again(4, 0, 0));
        Check.outOfBounds("below 0", () -> x.again(-1, 0, 0));
        Check.outOfBounds("figure 2", () -> x.again(0, 2, 0));
        Check.outOfRange("what 7", () -> x.again(0, 0, 7));
        Check.same("the round goes on as it was", x.play(1, 0, 0), 4);
    }

    /** Inputs that differ as the round goes on, without a source of chance. */
    private static int input(int frame, int figure) {
        int mixed = (frame / FRAMES_OF_AN_INPUT * 7919 + figure * 104729) % 1009;
        int[] inputs = {1, 1, 0, 2, 10, 11, 4, 12, 1, 10};
        return inputs[mixed % inputs.length];
    }

    private static int playSome(DuelFrames x, int frames, int till) {
        return x.play(Math.min(FRAMES_OF_AN_INPUT, till - frames), input(frames, 0), input(frames, 1));
    }

    private static void playTill(DuelFrames x, int till) {
        int frames = 0;
        for (int i = 0; i < FRAMES && frames < till; i++) {
            frames = playSome(x, frames, till);
        }
    }

    private static int playOut(DuelFrames x) {
        int frames = 0;
        for (int i = 0; i < FRAMES && x.goesOn(); i++) {
            frames = playSome(x, frames, FRAMES);
        }
        return frames;
    }

    /** What is told behind each frame as it is played must be told again at the end, whatever is done by then. */
    private static void compare(String what, Supplier<DuelFrames> begun, Consumer<DuelFrames> done) {
        int frames = playOut(begun.get());
        Check.yes(what + ": there are frames", frames > 100);
        for (int first = 0; first <= frames; first += FRAMES_OF_AN_OBJECT) {
            DuelFrames x = begun.get();
            playTill(x, frames);
            Check.no(what + ": the round is over", x.goesOn());
            Check.yes(what + ": something has happened", x.of(0, 1) < 1000 && x.of(1, 1) < 1000);
            done.accept(x);
            for (int frame = first; frame < first + FRAMES_OF_AN_OBJECT && frame <= frames; frame++) {
                compareFrame(what, begun.get(), x, frame);
            }
            Check.no(what + ": the round is still over", x.goesOn());
        }
    }

    private static void compareFrame(String what, DuelFrames fresh, DuelFrames x, int frame) {
        playTill(fresh, frame);
        for (int i = 0; i < 14; i++) {
            Check.same(what + ": again(" + frame + ", " + i / 7 + ", " + i % 7 + ")",
                    x.again(frame, i / 7, i % 7), fresh.of(i / 7, i % 7));
        }
    }

    private static DuelFrames firstRound() {
        DuelFrames x = withMoves();
        x.begin(60);
        return x;
    }

    private static void wholeRound() {
        compare("a whole round", AgainTest::firstRound, x -> { });
    }

    private static void otherMovesByNow() {
        compare("other moves by now", AgainTest::firstRound, x -> {
            for (int move = 0; move < 3; move++) {
                for (int what = 0; what < 5; what++) {
                    x.patch(move, what, 33);
                }
                x.cancel(move, 0, true);
                x.cancel(move, 1, move != 0);
            }
            x.move(1, 1, 1, 1, 0, 1);
            x.advantage(0, true);
            x.most(0, 4, 100);
        });
    }

    private static DuelFrames laterRound() {
        DuelFrames x = withMoves();
        x.begin(20);
        for (int i = 0; i < 20 && x.goesOn(); i++) {
            x.play(30, 10, 11);
        }
        int left = x.of(0, 2);
        int right = x.of(1, 2);
        Check.yes("there is meter", left + right > 0);
        x.begin(80);
        Check.same("the meter as the round begins", x.again(0, 0, 2), left);
        Check.same("that of the other one", x.again(0, 1, 2), right);
        Check.outOfBounds("the round ahead is gone", () -> x.again(1, 0, 0));
        return x;
    }

    private static void laterRounds() {
        compare("a later round", AgainTest::laterRound, x -> { });
    }
}
