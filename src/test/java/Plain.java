import java.util.ArrayList;
import java.util.List;

/**
 * The document once more, in another way: a state is a new row for each frame, moments are numbers of frames, rounds
 * are always played from their first frame, and rows of hits are all written down before the best is looked for.
 */
final class Plain {
    private static final int PLACE = 0, LIFE = 1, METER = 2, DOES = 3, IN = 4, LEFT = 5, COUNT = 6;
    private static final int TOUCHED = 7, KEPT = 8, KEPT_IN = 9, BEGAN = 10, SIZE = 11;
    private static final int CLOCK = 2 * SIZE;
    private static final int NEVER = -1000;

    private List<int[]> moves = new ArrayList<>();
    private List<boolean[]> into = new ArrayList<>();
    private List<int[]> roundMoves = new ArrayList<>();
    private List<boolean[]> roundInto = new ArrayList<>();
    private final List<int[]> inputs = new ArrayList<>();
    private int[] first = null;
    private final List<Integer> winners = new ArrayList<>();
    private boolean on = false;

    // ---- moves

    int move(int startup, int active, int recovery, int reach, int kind, int damage) {
        argue(startup >= 1 && startup <= 30 && active >= 1 && active <= 10 && recovery >= 1 && recovery <= 40);
        argue(reach >= 1 && reach <= 150 && kind >= 0 && kind <= 3 && damage >= 1 && damage <= 200);
        state(moves.size() < 6 && !on);
        moves.add(new int[] {startup, active, recovery, reach, kind, damage, 20, 12, 10, 0, 5});
        into.add(new boolean[6]);
        return moves.size() - 1;
    }

    int patch(int move, int what, int value) {
        there(move >= 0 && move < moves.size());
        argue(what >= 0 && what <= 4 && value >= 0 && value <= 60);
        state(!on);
        int before = moves.get(move)[6 + what];
        moves.get(move)[6 + what] = value;
        return before;
    }

    boolean cancel(int move, int other, boolean is) {
        there(move >= 0 && move < moves.size() && other >= 0 && other < moves.size());
        state(!on);
        boolean before = into.get(move)[other];
        into.get(move)[other] = is;
        return before;
    }

    // ---- rounds

    int begin(int apart) {
        argue(apart >= 20 && apart <= 300 && apart % 2 == 0);
        state(!on);
        boolean fresh = first == null || winner() >= 0;
        int[] last = first == null ? null : now(inputs.size());
        int one = fresh ? 0 : last[METER];
        int two = fresh ? 0 : last[SIZE + METER];
        if (fresh) {
            winners.clear();
        }
        first = start(apart, one, two);
        inputs.clear();
        roundMoves = new ArrayList<>();
        roundInto = new ArrayList<>();
        for (int i = 0; i < moves.size(); i++) {
            roundMoves.add(moves.get(i).clone());
            roundInto.add(into.get(i).clone());
        }
        on = true;
        winners.add(-2);
        return winners.size();
    }

    int play(int frames, int one, int two) {
        argue(frames >= 1 && frames <= 60 && isInput(one) && isInput(two));
        state(on);
        int[] s = now(inputs.size());
        while (frames-- > 0 && on) {
            inputs.add(new int[] {one, two});
            s = next(s, roundMoves, roundInto, one, two);
            int a = s[LIFE];
            int b = s[SIZE + LIFE];
            if (a <= 0 || b <= 0 || inputs.size() == 600) {
                on = false;
                winners.set(winners.size() - 1, a > b ? 0 : b > a ? 1 : -1);
            }
        }
        return inputs.size();
    }

    int of(int figure, int what) {
        there(figure == 0 || figure == 1);
        argue(what >= 0 && what <= 7);
        if (what == 7) {
            return won(figure);
        }
        return first == null ? (what == 4 ? -1 : 0) : told(now(inputs.size()), figure, what);
    }

    int again(int frame, int figure, int what) {
        there(first != null && frame >= 0 && frame <= inputs.size() && (figure == 0 || figure == 1));
        argue(what >= 0 && what <= 6);
        return told(now(frame), figure, what);
    }

    boolean goesOn() {
        return on;
    }

    int winner() {
        return won(0) == 2 ? 0 : won(1) == 2 ? 1 : -1;
    }

    private int won(int figure) {
        int won = 0;
        for (int by : winners) {
            won += by == figure ? 1 : 0;
        }
        return won;
    }

    private boolean isInput(int input) {
        return input >= 0 && input <= 4 || input >= 10 && input < 10 + moves.size();
    }

    private int[] now(int frames) {
        int[] s = first;
        for (int i = 0; i < frames; i++) {
            s = next(s, roundMoves, roundInto, inputs.get(i)[0], inputs.get(i)[1]);
        }
        return s;
    }

    private static int told(int[] s, int figure, int what) {
        int at = figure * SIZE;
        if (what == IN && s[at + DOES] != 1) {
            return -1;
        }
        if (what == LEFT && s[at + DOES] == 0) {
            return 0;
        }
        return s[at + what];
    }

    private static int[] start(int apart, int one, int two) {
        int[] s = new int[2 * SIZE + 1];
        for (int at = 0; at <= SIZE; at += SIZE) {
            s[at + PLACE] = at == 0 ? 300 - apart / 2 : 300 + apart / 2;
            s[at + LIFE] = 1000;
            s[at + METER] = at == 0 ? one : two;
            s[at + TOUCHED] = NEVER;
            s[at + KEPT_IN] = NEVER;
            s[at + BEGAN] = NEVER;
        }
        return s;
    }

    // ---- a frame

    private static int[] next(int[] from, List<int[]> moves, List<boolean[]> into, int one, int two) {
        int[] s = from.clone();
        int t = ++s[CLOCK];
        int[] given = {one, two};
        for (int f = 0; f < 2; f++) {
            begins(s, f * SIZE, t, given[f], moves, into);
        }
        goes(s, given);
        strikes(s, t, given, moves);
        for (int at = 0; at <= SIZE; at += SIZE) {
            s[at + LEFT] += s[at + DOES] == 1 ? 1 : -1;
            int[] m = s[at + DOES] == 1 ? moves.get(s[at + IN]) : null;
            if (m != null ? s[at + LEFT] == m[0] + m[1] + m[2] : s[at + LEFT] <= 0) {
                s[at + DOES] = 0;
            }
            s[at + COUNT] = s[at + DOES] == 2 ? s[at + COUNT] : 0;
        }
        return s;
    }

    private static void begins(int[] s, int at, int t, int given, List<int[]> moves, List<boolean[]> into) {
        if (given >= 10) {
            s[at + KEPT] = given - 10;
            s[at + KEPT_IN] = t;
        }
        if (t - s[at + KEPT_IN] >= 5) {
            return;
        }
        int m = s[at + KEPT];
        boolean may = s[at + DOES] == 0
                || s[at + DOES] == 1 && t - s[at + TOUCHED] <= 10 && into.get(s[at + IN])[m];
        if (may && moves.get(m)[9] <= s[at + METER]) {
            s[at + METER] -= moves.get(m)[9];
            s[at + DOES] = 1;
            s[at + IN] = m;
            s[at + LEFT] = 0;
            s[at + TOUCHED] = NEVER;
            s[at + KEPT_IN] = NEVER;
            s[at + BEGAN] = t;
        }
    }

    private static void goes(int[] s, int[] given) {
        int left = s[PLACE];
        int right = s[SIZE + PLACE];
        if (s[DOES] == 0) {
            left += given[0] == 1 ? 4 : given[0] == 2 ? -3 : 0;
        }
        if (s[SIZE + DOES] == 0) {
            right -= given[1] == 1 ? 4 : given[1] == 2 ? -3 : 0;
        }
        if (right - left < 20) {
            int missing = 20 - (right - left);
            left -= missing / 2;
            right += missing - missing / 2;
        }
        if (left < 0) {
            left = 0;
            right = right < 20 ? 20 : right;
        }
        if (right > 600) {
            right = 600;
            left = left > 580 ? 580 : left;
        }
        s[PLACE] = left;
        s[SIZE + PLACE] = right;
    }

    private static boolean reaches(int[] s, int by, int other, List<int[]> moves) {
        if (s[by + DOES] != 1 || s[by + TOUCHED] != NEVER) {
            return false;
        }
        int[] m = moves.get(s[by + IN]);
        int frame = s[by + LEFT];
        boolean active = frame >= m[0] && frame < m[0] + m[1];
        return active && (m[4] != 3 || s[other + DOES] <= 1) && s[SIZE + PLACE] - s[PLACE] <= m[3];
    }

    private static void strikes(int[] s, int t, int[] given, List<int[]> moves) {
        int[] was = s.clone();
        boolean[] reach = {reaches(was, 0, SIZE, moves), reaches(was, SIZE, 0, moves)};
        if (reach[0] && reach[1] && moves.get(was[IN])[4] == 3 && moves.get(was[SIZE + IN])[4] == 3) {
            s[TOUCHED] = t;
            s[SIZE + TOUCHED] = t;
            s[PLACE] = Math.max(0, s[PLACE] - 20);
            s[SIZE + PLACE] = Math.min(600, s[SIZE + PLACE] + 20);
            return;
        }
        for (int f = 0; f < 2; f++) {
            int by = f * SIZE;
            if (reach[f]) {
                lands(s, was, by, SIZE - by, t, given[1 - f], moves.get(was[by + IN]));
            }
        }
    }

    private static void lands(int[] s, int[] was, int by, int other, int t, int guard, int[] m) {
        s[by + TOUCHED] = t;
        s[by + METER] = Math.min(100, s[by + METER] + m[10]);
        boolean free = was[other + DOES] == 0 || was[other + DOES] == 3;
        boolean guards = guard == 2 && (m[4] == 0 || m[4] == 2) || guard == 4 && (m[4] == 1 || m[4] == 2);
        if (free && guards) {
            s[other + LIFE] -= m[5] / 10;
            s[other + DOES] = 3;
            s[other + LEFT] = m[7];
        } else {
            int count = was[other + DOES] == 2 ? was[other + COUNT] + 1 : 1;
            boolean counter = was[other + DOES] == 1;
            int loss = m[5] * Math.max(1, 11 - count) / 10;
            s[other + LIFE] -= counter ? loss * 6 / 5 : loss;
            s[other + DOES] = 2;
            s[other + LEFT] = Math.max(0, m[6] - 2 * (count - 1) + (counter ? 4 : 0));
            s[other + COUNT] = count;
        }
        if (by == 0) {
            int to = s[SIZE + PLACE] + m[8];
            s[SIZE + PLACE] = Math.min(600, to);
            s[PLACE] = Math.max(0, s[PLACE] - Math.max(0, to - 600));
        } else {
            int to = s[PLACE] - m[8];
            s[PLACE] = Math.max(0, to);
            s[SIZE + PLACE] = Math.min(600, s[SIZE + PLACE] + Math.max(0, -to));
        }
    }

    // ---- the laboratory

    int advantage(int move, boolean isBlocked) {
        there(move >= 0 && move < moves.size());
        int[] m = moves.get(move);
        List<int[]> behind = new ArrayList<>();
        behind.add(start(20, 100, 100));
        for (int n = 1; n <= 200; n++) {
            int guard = n > m[0] && isBlocked ? (m[4] == 1 ? 4 : 2) : 0;
            behind.add(next(behind.get(n - 1), moves, into, n == 1 ? 10 + move : 0, guard));
        }
        return standsBehind(behind, SIZE) - standsBehind(behind, 0);
    }

    private static int standsBehind(List<int[]> behind, int at) {
        int n = behind.size();
        while (n > 0 && behind.get(n - 1)[at + DOES] == 0) {
            n--;
        }
        return n;
    }

    int punish(int move, int by) {
        there(move >= 0 && move < moves.size() && by >= 0 && by < moves.size());
        return Math.min(lossOf(move, by, 2), lossOf(move, by, 4));
    }

    private int lossOf(int move, int by, int guard) {
        int[] m = moves.get(move);
        int[] s = start(20, 100, 100);
        int phase = 0;
        for (int n = 1; n <= 200; n++) {
            int two = n > m[0] ? (m[4] == 1 ? 4 : 2) : 0;
            if (phase == 1 && s[SIZE + DOES] == 0) {
                phase = 2;
                two = 10 + by;
            } else if (phase == 2) {
                two = 0;
            }
            s = next(s, moves, into, n == 1 ? 10 + move : guard, two);
            if (phase == 0 && s[SIZE + DOES] == 3) {
                phase = 1;
            }
        }
        return 1000 - s[LIFE];
    }

    int most(int move, int hits, int meter) {
        there(move >= 0 && move < moves.size());
        argue(hits >= 1 && hits <= 4 && meter >= 0 && meter <= 100);
        int[] best = bestRow(move, hits, meter);
        return best == null ? 0 : lossBy(best, meter);
    }

    int mostAt(int move, int hits, int meter, int place) {
        there(move >= 0 && move < moves.size() && place >= 0);
        argue(hits >= 1 && hits <= 4 && meter >= 0 && meter <= 100);
        int[] best = bestRow(move, hits, meter);
        return best == null || place >= best.length ? -1 : best[place];
    }

    private int[] bestRow(int move, int hits, int meter) {
        List<int[]> rows = new ArrayList<>();
        rows.add(new int[] {move});
        for (int i = 0; i < rows.size(); i++) {
            for (int m = 0; m < moves.size() && rows.get(i).length < hits; m++) {
                int[] longer = java.util.Arrays.copyOf(rows.get(i), rows.get(i).length + 1);
                longer[longer.length - 1] = m;
                rows.add(longer);
            }
        }
        rows.sort(java.util.Arrays::compare);
        int[] best = null;
        int most = -1;
        for (int[] row : rows) {
            int loss = lossBy(row, meter);
            if (loss > most) {
                most = loss;
                best = row;
            }
        }
        return best;
    }

    /** -1 if one of the hits does not count. */
    private int lossBy(int[] row, int meter) {
        int[] s = start(20, meter, 100);
        for (int m : row) {
            int before = s[SIZE + COUNT];
            int from = s[CLOCK];
            do {
                s = next(s, moves, into, s[BEGAN] > from ? 0 : 10 + m, 0);
            } while (s[SIZE + COUNT] == before && s[CLOCK] - from < 60);
            if (s[SIZE + COUNT] <= before) {
                return -1;
            }
        }
        return 1000 - s[SIZE + LIFE];
    }

    private static void there(boolean is) {
        if (!is) {
            throw new IndexOutOfBoundsException();
        }
    }

    private static void argue(boolean is) {
        if (!is) {
            throw new IllegalArgumentException();
        }
    }

    private static void state(boolean is) {
        if (!is) {
            throw new IllegalStateException();
        }
    }
}
