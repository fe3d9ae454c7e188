/** Duels of two figures in frames, a laboratory that tries moves, and rounds that are played again. */
public final class DuelFrames {
    public static final int NONE = -1;
    public static final int HIGH = 0, LOW = 1, MID = 2, THROW = 3;
    public static final int STANDS = 0, MOVE = 1, HIT = 2, BLOCKS = 3;

    private static final int NOTHING = 0, FORWARD = 1, BACK = 2, BACK_AND_LOW = 4, FIRST_MOVE = 10;
    private static final int HIT_STUN = 0, BLOCK_STUN = 1, PUSH = 2, COST = 3, GAIN = 4, TRAITS = 5;
    private static final int MOST_MOVES = 6, MOST_TRAIT = 60;

    private static final int STAGE = 600, MIDST = 300, NEAREST = 20, FURTHEST = 300, PARTED_BY = 20;
    private static final int FULL_LIFE = 1000, FULL_METER = 100;
    private static final int KEPT_FRAMES = 5, CANCEL_FRAMES = 10;
    private static final int ROUND_FRAMES = 600, PLAY_FRAMES = 60, ROUNDS_TO_WIN = 2;
    private static final int MOST_HITS = 4, HIT_FRAMES = 60, LAB_FRAMES = 200;
    private static final int WON_ROUNDS = 7, TOLD_AGAIN = 6;

    private final MoveList moves = new MoveList();
    private final MoveList movesOfRound = new MoveList();
    private final Duel duel = new Duel(movesOfRound);
    private final Duel replay = new Duel(movesOfRound);
    private final Tape tape = new Tape();
    private final Bout bout = new Bout();
    private final Lab lab = new Lab(moves);
    private boolean roundGoesOn = false;

    public DuelFrames() {
    }

    // ---- moves

    public int move(int startup, int active, int recovery, int reach, int kind, int damage)
            throws IllegalArgumentException, IllegalStateException {
        needWithin(startup, 1, 30);
        needWithin(active, 1, 10);
        needWithin(recovery, 1, 40);
        needWithin(reach, 1, 150);
        needWithin(kind, HIGH, THROW);
        needWithin(damage, 1, 200);
        needNoRound();
        if (moves.count >= MOST_MOVES) {
            throw new IllegalStateException("there are as many moves as can be");
        }
        int number = moves.count;
        moves.at(number).make(startup, active, recovery, reach, kind, damage);
        moves.count = number + 1;
        return number;
    }

    public int patch(int move, int what, int value)
            throws IndexOutOfBoundsException, IllegalArgumentException, IllegalStateException {
        needMove(move);
        needWithin(what, 0, TRAITS - 1);
        needWithin(value, 0, MOST_TRAIT);
        needNoRound();
        int before = moves.at(move).trait(what);
        moves.at(move).setTrait(what, value);
        return before;
    }

    public boolean cancel(int move, int into, boolean is)
            throws IndexOutOfBoundsException, IllegalStateException {
        needMove(move);
        needMove(into);
        needNoRound();
        boolean before = moves.at(move).goesInto(into);
        moves.at(move).letGoInto(into, is);
        return before;
    }

    // ---- rounds

    public int begin(int apart) throws IllegalArgumentException, IllegalStateException {
        needWithin(apart, NEAREST, FURTHEST);
        if (apart % 2 != 0) {
            throw new IllegalArgumentException("the figures are not evenly apart");
        }
        needNoRound();
        boolean isNewSet = bout.begun == 0 || bout.wonBy() != NONE;
        if (isNewSet) {
            bout.clear();
        }
        movesOfRound.copy(moves);
        tape.clear(apart, isNewSet ? 0 : duel.left.meter, isNewSet ? 0 : duel.right.meter);
        tape.prepare(duel);
        roundGoesOn = true;
        bout.begun++;
        return bout.begun;
    }

    public int play(int frames, int one, int two) throws IllegalArgumentException, IllegalStateException {
        needWithin(frames, 1, PLAY_FRAMES);
        needInput(one);
        needInput(two);
        if (!roundGoesOn) {
            throw new IllegalStateException("no round goes on");
        }
        for (int i = 0; i < frames && roundGoesOn; i++) {
            tape.add(one, two);
            duel.playFrame(one, two);
            endRoundIfOver();
        }
        return tape.frames;
    }

    public int of(int figure, int what) throws IndexOutOfBoundsException, IllegalArgumentException {
        needFigure(figure);
        needWithin(what, 0, WON_ROUNDS);
        return what == WON_ROUNDS ? bout.wins(figure) : duel.figure(figure).tell(what);
    }

    public int again(int frame, int figure, int what)
            throws IndexOutOfBoundsException, IllegalArgumentException {
        if (bout.begun == 0 || frame < 0 || frame > tape.frames) {
            throw new IndexOutOfBoundsException("no such frame");
        }
        needFigure(figure);
        needWithin(what, 0, TOLD_AGAIN);
        tape.playInto(replay, frame);
        return replay.figure(figure).tell(what);
    }

    public boolean goesOn() {
        return roundGoesOn;
    }

    public int winner() {
        return bout.wonBy();
    }

    // ---- the laboratory

    public int advantage(int move, boolean isBlocked) throws IndexOutOfBoundsException {
        needMove(move);
        return lab.framesAhead(move, isBlocked);
    }

    public int punish(int move, int by) throws IndexOutOfBoundsException {
        needMove(move);
        needMove(by);
        return Math.min(lab.lossOfPunished(move, by, BACK), lab.lossOfPunished(move, by, BACK_AND_LOW));
    }

    public int most(int move, int hits, int meter) throws IndexOutOfBoundsException, IllegalArgumentException {
        needMove(move);
        needWithin(hits, 1, MOST_HITS);
        needWithin(meter, 0, FULL_METER);
        lab.clearRows(meter);
        Lab.addHit(lab, move, 0, hits);
        return lab.bestLoss;
    }

    public int mostAt(int move, int hits, int meter, int place)
            throws IndexOutOfBoundsException, IllegalArgumentException {
        needMove(move);
        if (place < 0) {
            throw new IndexOutOfBoundsException("no such place");
        }
        needWithin(hits, 1, MOST_HITS);
        needWithin(meter, 0, FULL_METER);
        lab.clearRows(meter);
        Lab.addHit(lab, move, 0, hits);
        return lab.bestAt(place);
    }

    private void endRoundIfOver() {
        int left = duel.left.life;
        int right = duel.right.life;
        if (left > 0 && right > 0 && tape.frames < ROUND_FRAMES) {
            return;
        }
        roundGoesOn = false;
        bout.count(left, right);
    }

    private void needMove(int move) throws IndexOutOfBoundsException {
        if (!moves.has(move)) {
            throw new IndexOutOfBoundsException("no such move");
        }
    }

    private void needInput(int input) throws IllegalArgumentException {
        boolean isGoing = input >= NOTHING && input <= BACK_AND_LOW;
        boolean isMove = input >= FIRST_MOVE && moves.has(input - FIRST_MOVE);
        if (!isGoing && !isMove) {
            throw new IllegalArgumentException("no such input");
        }
    }

    private void needNoRound() throws IllegalStateException {
        if (roundGoesOn) {
            throw new IllegalStateException("a round goes on");
        }
    }

    private static void needFigure(int figure) throws IndexOutOfBoundsException {
        if (figure != 0 && figure != 1) {
            throw new IndexOutOfBoundsException("no such figure");
        }
    }

    private static void needWithin(int value, int least, int greatest) throws IllegalArgumentException {
        if (value < least || value > greatest) {
            throw new IllegalArgumentException("an argument is out of its range");
        }
    }

    private static int inputOf(int move) {
        return FIRST_MOVE + move;
    }

    /** One move. A new one has no active frame and no reach: it can stand for the move that there is not. */
    private static final class Move {
        int startup = 0, active = 0, recovery = 0, reach = 0, kind = HIGH, damage = 0;
        private final int[] traits = new int[TRAITS];
        private final boolean[] into = new boolean[MOST_MOVES];

        void make(int startup, int active, int recovery, int reach, int kind, int damage) {
            this.startup = startup;
            this.active = active;
            this.recovery = recovery;
            this.reach = reach;
            this.kind = kind;
            this.damage = damage;
            setTrait(HIT_STUN, 20);
            setTrait(BLOCK_STUN, 12);
            setTrait(PUSH, 10);
            setTrait(COST, 0);
            setTrait(GAIN, 5);
        }

        void copy(Move from) {
            startup = from.startup;
            active = from.active;
            recovery = from.recovery;
            reach = from.reach;
            kind = from.kind;
            damage = from.damage;
            System.arraycopy(from.traits, 0, traits, 0, TRAITS);
            for (int i = 0; i < MOST_MOVES; i++) {
                into[i] = from.into[i];
            }
        }

        int trait(int what) {
            return what >= 0 && what < TRAITS ? traits[what] : 0;
        }

        void setTrait(int what, int value) {
            if (what >= 0 && what < TRAITS) {
                traits[what] = value;
            }
        }

        boolean goesInto(int move) {
            return move >= 0 && move < MOST_MOVES && into[move];
        }

        void letGoInto(int move, boolean is) {
            if (move >= 0 && move < MOST_MOVES) {
                into[move] = is;
            }
        }

        int frames() {
            return startup + active + recovery;
        }

        boolean isActiveIn(int frame) {
            return frame >= startup && frame < startup + active;
        }

        boolean isBlockedWith(int input) {
            boolean isHighBlock = input == BACK && (kind == HIGH || kind == MID);
            boolean isLowBlock = input == BACK_AND_LOW && (kind == LOW || kind == MID);
            return isHighBlock || isLowBlock;
        }
    }

    /** The moves by their numbers. */
    private static final class MoveList {
        int count = 0;
        private final Move[] row = new Move[MOST_MOVES];
        private final Move none = new Move();

        MoveList() {
            for (int i = 0; i < MOST_MOVES; i++) {
                row[i] = new Move();
            }
        }

        boolean has(int number) {
            return number >= 0 && number < count;
        }

        Move at(int number) {
            return number >= 0 && number < MOST_MOVES ? row[number] : none;
        }

        void copy(MoveList from) {
            count = from.count;
            for (int i = 0; i < MOST_MOVES; i++) {
                row[i].copy(from.row[i]);
            }
        }
    }

    /** One figure. A new one is as told ahead of the first round. */
    private static final class Figure {
        int place = 0, life = 0, meter = 0, does = STANDS, count = 0;
        /** The move in which it is, the frame of that, and how many frames ago that touched, NONE if it did not. */
        int move = NONE, frame = 0, touchedAgo = NONE;
        /** How many more frames it is HIT or BLOCKS. */
        int stun = 0;
        private int kept = NONE, keptFor = 0;
        int input = NOTHING;
        boolean begins = false;
        /** What it did, and its count, ahead of all hits of the frame. */
        private int did = STANDS, counted = 0;
        private final boolean isLeft;

        Figure(boolean isLeft) {
            this.isLeft = isLeft;
        }

        void prepare(int place, int meter) {
            this.place = place;
            this.meter = meter;
            life = FULL_LIFE;
            count = 0;
            stand();
            drop();
        }

        /** Between two frames: what belongs to one frame alone is not copied. */
        void copy(Figure from) {
            place = from.place;
            life = from.life;
            meter = from.meter;
            does = from.does;
            count = from.count;
            move = from.move;
            frame = from.frame;
            touchedAgo = from.touchedAgo;
            stun = from.stun;
            kept = from.kept;
            keptFor = from.keptFor;
        }

        int tell(int what) {
            switch (what) {
                case 0:
                    return place;
                case 1:
                    return life;
                case 2:
                    return meter;
                case 3:
                    return does;
                case 4:
                    return move;
                case 5:
                    return does == MOVE ? frame : stun;
                default:
                    return count;
            }
        }

        void stand() {
            does = STANDS;
            stun = 0;
            leaveMove();
        }

        private void leaveMove() {
            move = NONE;
            frame = 0;
            touchedAgo = NONE;
        }

        private void drop() {
            kept = NONE;
            keptFor = 0;
        }

        void take(int given) {
            input = given;
            begins = false;
            if (given >= FIRST_MOVE) {
                kept = given - FIRST_MOVE;
                keptFor = KEPT_FRAMES;
            }
        }

        void beginKept(MoveList moves) {
            if (kept == NONE || moves.at(kept).trait(COST) > meter || !isFreeForKept(moves)) {
                return;
            }
            meter -= moves.at(kept).trait(COST);
            does = MOVE;
            move = kept;
            frame = 0;
            touchedAgo = NONE;
            begins = true;
            drop();
        }

        private boolean isFreeForKept(MoveList moves) {
            if (does == STANDS) {
                return true;
            }
            boolean hasJustTouched = touchedAgo != NONE && touchedAgo <= CANCEL_FRAMES;
            return does == MOVE && hasJustTouched && moves.at(move).goesInto(kept);
        }

        void walk() {
            if (does == STANDS && input == FORWARD) {
                place += isLeft ? 4 : -4;
            } else if (does == STANDS && input == BACK) {
                place += isLeft ? -3 : 3;
            }
        }

        /** Goes back as far as the stage goes, and answers what is missing. */
        int goBack(int by) {
            int room = isLeft ? place : STAGE - place;
            int goes = by < room ? by : room;
            place += isLeft ? -goes : goes;
            return by - goes;
        }

        void rememberAheadOfHits() {
            did = does;
            counted = count;
        }

        void touch(int gain) {
            touchedAgo = 0;
            meter = meter + gain > FULL_METER ? FULL_METER : meter + gain;
        }

        boolean blocks(Move struck) {
            return (did == STANDS || did == BLOCKS) && struck.isBlockedWith(input);
        }

        void block(Move struck) {
            life -= struck.damage / 10;
            does = BLOCKS;
            stun = struck.trait(BLOCK_STUN);
        }

        void suffer(Move struck) {
            boolean wasInMove = did == MOVE;
            count = did == HIT ? counted + 1 : 1;
            int tenths = count < 10 ? 11 - count : 1;
            int loss = struck.damage * tenths / 10;
            int stunned = struck.trait(HIT_STUN) - 2 * (count - 1);
            if (wasInMove) {
                loss = loss * 6 / 5;
                stunned += 4;
            }
            life -= loss;
            leaveMove();
            does = HIT;
            stun = stunned < 0 ? 0 : stunned;
        }

        void endFrame(MoveList moves) {
            if (does == MOVE) {
                endFrameOfMove(moves.at(move).frames());
            } else if (does != STANDS) {
                stun--;
                if (stun <= 0) {
                    stand();
                }
            }
            if (does != HIT) {
                count = 0;
            }
            keptFor--;
            if (keptFor <= 0) {
                drop();
            }
        }

        private void endFrameOfMove(int frames) {
            frame++;
            if (touchedAgo != NONE) {
                touchedAgo++;
            }
            if (frame >= frames) {
                stand();
            }
        }
    }

    /** Two figures on the stage, frame by frame. That a round is over is for others to say. */
    private static final class Duel {
        private final MoveList moves;
        final Figure left = new Figure(true);
        final Figure right = new Figure(false);

        Duel(MoveList moves) {
            this.moves = moves;
        }

        void prepare(int apart, int leftMeter, int rightMeter) {
            left.prepare(MIDST - apart / 2, leftMeter);
            right.prepare(MIDST + apart / 2, rightMeter);
        }

        void copy(Duel from) {
            left.copy(from.left);
            right.copy(from.right);
        }

        Figure figure(int number) {
            return number == 0 ? left : right;
        }

        void playFrame(int one, int two) {
            left.take(one);
            right.take(two);
            left.beginKept(moves);
            right.beginKept(moves);
            walk();
            strike();
            left.endFrame(moves);
            right.endFrame(moves);
        }

        private int apart() {
            return right.place - left.place;
        }

        private void walk() {
            left.walk();
            right.walk();
            int missing = NEAREST - apart();
            if (missing > 0) {
                left.place -= missing / 2;
                right.place += missing - missing / 2;
            }
            if (left.place < 0) {
                left.place = 0;
                right.place = Math.max(right.place, NEAREST);
            }
            if (right.place > STAGE) {
                right.place = STAGE;
                left.place = Math.min(left.place, STAGE - NEAREST);
            }
        }

        /** Who reaches is settled ahead of all hits: a hit takes the other one out of its move, and out of reach. */
        private void strike() {
            Move leftMove = moves.at(left.move);
            Move rightMove = moves.at(right.move);
            boolean leftReaches = reaches(left, leftMove, right);
            boolean rightReaches = reaches(right, rightMove, left);
            if (leftReaches && rightReaches && leftMove.kind == THROW && rightMove.kind == THROW) {
                part();
                return;
            }
            left.rememberAheadOfHits();
            right.rememberAheadOfHits();
            if (leftReaches) {
                land(left, leftMove, right);
            }
            if (rightReaches) {
                land(right, rightMove, left);
            }
        }

        private boolean reaches(Figure by, Move move, Figure other) {
            boolean canStrike = by.does == MOVE && by.touchedAgo == NONE && move.isActiveIn(by.frame);
            boolean canBeStruck = move.kind != THROW || other.does == STANDS || other.does == MOVE;
            return canStrike && canBeStruck && apart() <= move.reach;
        }

        private void part() {
            left.touch(0);
            right.touch(0);
            left.goBack(PARTED_BY);
            right.goBack(PARTED_BY);
        }

        private static void land(Figure by, Move move, Figure other) {
            by.touch(move.trait(GAIN));
            if (other.blocks(move)) {
                other.block(move);
            } else {
                other.suffer(move);
            }
            by.goBack(other.goBack(move.trait(PUSH)));
        }
    }

    /** How the latest round began, and its inputs. */
    private static final class Tape {
        int frames = 0;
        private int apart = 0, leftMeter = 0, rightMeter = 0;
        private final int[] ones = new int[ROUND_FRAMES];
        private final int[] twos = new int[ROUND_FRAMES];

        void clear(int apart, int leftMeter, int rightMeter) {
            this.apart = apart;
            this.leftMeter = leftMeter;
            this.rightMeter = rightMeter;
            frames = 0;
        }

        void add(int one, int two) {
            if (frames < ROUND_FRAMES) {
                ones[frames] = one;
                twos[frames] = two;
                frames++;
            }
        }

        void prepare(Duel duel) {
            duel.prepare(apart, leftMeter, rightMeter);
        }

        void playInto(Duel duel, int upTo) {
            prepare(duel);
            for (int i = 0; i < upTo && i < frames && i < ROUND_FRAMES; i++) {
                duel.playFrame(ones[i], twos[i]);
            }
        }
    }

    /** A set of rounds: how many were begun, and who has won how many. */
    private static final class Bout {
        int begun = 0;
        private int leftWins = 0, rightWins = 0;

        void clear() {
            begun = 0;
            leftWins = 0;
            rightWins = 0;
        }

        void count(int leftLife, int rightLife) {
            if (leftLife > rightLife) {
                leftWins++;
            } else if (rightLife > leftLife) {
                rightWins++;
            }
        }

        int wins(int figure) {
            return figure == 0 ? leftWins : rightWins;
        }

        int wonBy() {
            if (leftWins >= ROUNDS_TO_WIN) {
                return 0;
            }
            return rightWins >= ROUNDS_TO_WIN ? 1 : NONE;
        }
    }

    /** Finds by trying, with the moves as they are now. */
    private static final class Lab {
        int bestLoss = 0;
        private final MoveList moves;
        private final Duel trial;
        /** The duels behind so many hits of the row that is tried. */
        private final Duel[] behindHits = new Duel[MOST_HITS + 1];
        private final int[] row = new int[MOST_HITS];
        private final int[] best = new int[MOST_HITS];
        private int bestHits = 0;

        Lab(MoveList moves) {
            this.moves = moves;
            trial = new Duel(moves);
            for (int i = 0; i <= MOST_HITS; i++) {
                behindHits[i] = new Duel(moves);
            }
        }

        int framesAhead(int move, boolean isBlocked) {
            int leftFree = 0;
            int rightFree = 0;
            trial.prepare(NEAREST, FULL_METER, FULL_METER);
            for (int frame = 1; frame <= LAB_FRAMES; frame++) {
                int one = frame == 1 ? inputOf(move) : NOTHING;
                trial.playFrame(one, isBlocked ? inputToBlock(move, frame) : NOTHING);
                if (trial.left.does != STANDS) {
                    leftFree = frame + 1;
                }
                if (trial.right.does != STANDS) {
                    rightFree = frame + 1;
                }
            }
            return rightFree - leftFree;
        }

        private int inputToBlock(int move, int frame) {
            if (frame <= moves.at(move).startup) {
                return NOTHING;
            }
            return moves.at(move).kind == LOW ? BACK_AND_LOW : BACK;
        }

        int lossOfPunished(int move, int by, int guard) {
            boolean hasBlocked = false;
            boolean hasPunished = false;
            trial.prepare(NEAREST, FULL_METER, FULL_METER);
            for (int frame = 1; frame <= LAB_FRAMES; frame++) {
                int two = hasPunished ? NOTHING : inputToBlock(move, frame);
                if (hasBlocked && !hasPunished && trial.right.does == STANDS) {
                    two = inputOf(by);
                    hasPunished = true;
                }
                trial.playFrame(frame == 1 ? inputOf(move) : guard, two);
                hasBlocked = hasBlocked || trial.right.does == BLOCKS;
            }
            return FULL_LIFE - trial.left.life;
        }

        void clearRows(int meter) {
            bestLoss = 0;
            bestHits = 0;
            behindHits[0].prepare(NEAREST, meter, FULL_METER);
        }

        /** Rows come by their numbers, each ahead of those that begin with it: the first of the best is kept. */
        private static void addHit(Lab lab, int move, int hitsAhead, int hits) {
            if (hitsAhead < 0 || hitsAhead >= hits || hitsAhead >= MOST_HITS) {
                return;
            }
            Duel next = lab.behindHits[hitsAhead + 1];
            next.copy(lab.behindHits[hitsAhead]);
            if (!hitsWith(next, move)) {
                return;
            }
            lab.row[hitsAhead] = move;
            lab.keepIfBest(FULL_LIFE - next.right.life, hitsAhead + 1);
            for (int i = 0; i < lab.moves.count; i++) {
                addHit(lab, i, hitsAhead + 1, hits);
            }
        }

        private static boolean hitsWith(Duel duel, int move) {
            int before = duel.right.count;
            boolean hasBegun = false;
            for (int i = 0; i < HIT_FRAMES; i++) {
                duel.playFrame(hasBegun ? NOTHING : inputOf(move), NOTHING);
                hasBegun = hasBegun || duel.left.begins;
                if (duel.right.count != before) {
                    return duel.right.count > before;
                }
            }
            return false;
        }

        private void keepIfBest(int loss, int hits) {
            if (loss > bestLoss && hits <= MOST_HITS) {
                bestLoss = loss;
                bestHits = hits;
                System.arraycopy(row, 0, best, 0, hits);
            }
        }

        int bestAt(int place) {
            return place >= 0 && place < bestHits && place < MOST_HITS ? best[place] : NONE;
        }
    }
}
