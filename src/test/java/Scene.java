/** Brings figures to where a test wants them, by calls of the face alone. */
final class Scene {
    private Scene() {
    }

    static Sided with(int startup, int active, int recovery, int reach, int kind, int damage) {
        Sided x = new Sided();
        x.move(startup, active, recovery, reach, kind, damage);
        return x;
    }

    /** A move that hits from afar in its second frame and is over behind its third one. */
    static Sided withQuick(int kind, int damage) {
        return with(1, 1, 1, 150, kind, damage);
    }

    /** Three frames: the move of the figure 0, quick, begins, touches, and is over. */
    static void quick(Sided x, int move, int guard) {
        x.play(1, 10 + move, guard);
        x.play(2, 0, guard);
    }

    static void wait(Sided x, int frames) {
        for (int left = frames; left > 0; left -= 60) {
            x.play(Math.min(60, left), 0, 0);
        }
    }

    static void waitOut(Sided x) {
        for (int i = 0; i < 10 && x.goesOn(); i++) {
            x.play(60, 0, 0);
        }
    }

    /** A round with the figures at these places, and nothing else done in it. */
    static void at(Sided x, int left, int right) {
        x.begin(300);
        boolean isRoomForLeft = left + 20 <= x.of(1, 0);
        walk(x, isRoomForLeft ? 0 : 1, isRoomForLeft ? left : right);
        walk(x, isRoomForLeft ? 1 : 0, isRoomForLeft ? right : left);
        places("the scene", x, left, right);
    }

    static void places(String what, Sided x, int left, int right) {
        Check.same(what + ": the place of the figure 0", x.of(0, 0), left);
        Check.same(what + ": the place of the figure 1", x.of(1, 0), right);
    }

    /** Goes there in the fewest frames, 4 forward and 3 back, without touching an end or the other one on the way. */
    static void walk(Sided x, int figure, int to) {
        int from = x.of(figure, 0);
        int forward = figure == 0 ? to - from : from - to;
        int back = 0;
        while ((forward + 3 * back) % 4 != 0 || forward + 3 * back < 0) {
            back++;
        }
        int ahead = (forward + 3 * back) / 4;
        int apart = x.of(1, 0) - x.of(0, 0);
        if (apart - 4 * ahead >= 20) {
            go(x, figure, 1, ahead);
            go(x, figure, 2, back);
        } else {
            go(x, figure, 2, back);
            go(x, figure, 1, ahead);
        }
    }

    private static void go(Sided x, int figure, int input, int frames) {
        for (int left = frames; left > 0; left -= 60) {
            x.play(Math.min(60, left), figure == 0 ? input : 0, figure == 0 ? 0 : input);
        }
    }
}
