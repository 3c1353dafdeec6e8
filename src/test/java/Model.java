import java.util.ArrayList;
import java.util.Arrays;
import java.util.Collections;
import java.util.List;
import java.util.regex.Pattern;

/**
 * The document once more, as directly as the library allows and without regard to cost, so that
 * random runs can be compared: states are copied whole, every way is written out and sorted.
 */
final class Model {
    static final int UNKNOWN = -101;
    static final int BAD_VALUE = -102;
    static final int FULL = -103;
    static final int NOT_POSSIBLE = -104;
    static final int NONE = -105;

    static final class State {
        int[] board = new int[36];
        int side = 1;
        int quiet = 0;
        int limit = 20;
        int moves = 0;
        int captures = 0;
        List<String> positions = new ArrayList<>();

        State copy() {
            State s = new State();
            s.board = board.clone();
            s.side = side;
            s.quiet = quiet;
            s.limit = limit;
            s.moves = moves;
            s.captures = captures;
            s.positions = new ArrayList<>(positions);
            return s;
        }

        int pieces(int ofSide) {
            return (int) Arrays.stream(board).filter(p -> p == ofSide).count();
        }

        int result() {
            boolean one = pieces(1) > 0;
            boolean two = pieces(2) > 0;
            if (one && two) {
                return quiet >= limit ? 3 : 0;
            }
            return one ? 1 : two ? 2 : 3;
        }

        String position() {
            return Arrays.toString(board) + side;
        }

        void forget() {
            positions.clear();
            positions.add(position());
        }
    }

    State now = fresh(20);
    List<State> history = new ArrayList<>();
    State snapshot = null;
    StringBuilder text = new StringBuilder();
    int[] stop = null;

    static State fresh(int limit) {
        State s = new State();
        for (int p = 0; p < 36; p++) {
            s.board[p] = p < 12 ? 1 : p > 23 ? 2 : 0;
        }
        s.limit = limit;
        s.forget();
        return s;
    }

    static boolean bad(int p) {
        return p < 0 || p > 35;
    }

    /** The four lines, each with its loop behind it. */
    static int[] line(int circuit) {
        int a = 1 + circuit;
        int b = 5 - a;
        List<Integer> places = new ArrayList<>();
        for (int c = 0; c <= 5; c++) {
            places.add(a * 6 + c);
        }
        for (int r = 0; r <= 5; r++) {
            places.add(r * 6 + b);
        }
        for (int c = 5; c >= 0; c--) {
            places.add(b * 6 + c);
        }
        for (int r = 5; r >= 0; r--) {
            places.add(r * 6 + a);
        }
        return places.stream().mapToInt(i -> i).toArray();
    }

    /** Loops, places, circuit, place, whether backwards: in this order ways are compared. */
    static int[] bestWay(State s, int from, int to) {
        List<int[]> ways = new ArrayList<>();
        for (int circuit = 0; circuit < 2; circuit++) {
            int[] line = line(circuit);
            for (int place = 0; place < 24; place++) {
                if (line[place] == from) {
                    for (int back = 0; back < 2; back++) {
                        int at = place;
                        int loops = 0;
                        int gone = 0;
                        do {
                            if (back == 0) {
                                if (at == 5 || at == 11 || at == 17 || at == 23) {
                                    loops++;
                                }
                                at = at == 23 ? 0 : at + 1;
                            } else {
                                at = at == 0 ? 23 : at - 1;
                                if (at == 5 || at == 11 || at == 17 || at == 23) {
                                    loops++;
                                }
                            }
                            gone++;
                        } while (at != place && (line[at] == from || s.board[line[at]] == 0));
                        if (at != place && line[at] == to && loops > 0) {
                            ways.add(new int[] {loops, gone, circuit, place, back});
                        }
                    }
                }
            }
        }
        ways.sort(Arrays::compare);
        return ways.isEmpty() ? null : ways.get(0);
    }

    static boolean couldCapture(State s, int from, int to) {
        return s.board[from] * s.board[to] == 2 && bestWay(s, from, to) != null;
    }

    static boolean couldStep(State s, int from, int to) {
        int dr = from / 6 - to / 6;
        int dc = from % 6 - to % 6;
        int far = dr * dr + dc * dc;
        return s.board[to] == 0 && (far == 1 || far == 2);
    }

    static int why(State s, int from, int to, boolean capture) {
        if (s.result() != 0) {
            return 1;
        }
        if (s.board[from] != s.side) {
            return 2;
        }
        if (s.board[to] == s.side || from == to) {
            return 3;
        }
        return (capture ? couldCapture(s, from, to) : couldStep(s, from, to)) ? 0 : 4;
    }

    static List<Integer> moves(State s, boolean capture) {
        List<Integer> all = new ArrayList<>();
        boolean over = s.result() != 0;
        for (int from = 0; from < 36; from++) {
            for (int to = 0; to < 36; to++) {
                if (!over && s.board[from] == s.side && why(s, from, to, capture) == 0) {
                    all.add(100 * from + to);
                }
            }
        }
        return all;
    }

    static List<Integer> moves(State s) {
        List<Integer> all = moves(s, true);
        all.addAll(moves(s, false));
        return all;
    }

    static State behind(State s, int from, int to) {
        State t = s.copy();
        boolean capture = t.board[to] != 0;
        t.board[to] = t.board[from];
        t.board[from] = 0;
        t.side = 3 - t.side;
        t.moves++;
        t.quiet++;
        if (capture) {
            t.quiet = 0;
            t.captures++;
            t.positions.clear();
        }
        t.positions.add(t.position());
        return t;
    }

    static int worth(State s, int depth) {
        List<Integer> moves = depth == 0 ? List.of() : moves(s);
        if (moves.isEmpty()) {
            return s.pieces(s.side) - s.pieces(3 - s.side);
        }
        List<Integer> worths = new ArrayList<>();
        for (int m : moves) {
            worths.add(-worth(behind(s, m / 100, m % 100), depth - 1));
        }
        return Collections.max(worths);
    }

    static int bestOf(State s, int depth) {
        List<Integer> moves = moves(s);
        int best = -1;
        int bestWorth = Integer.MIN_VALUE;
        for (int m : moves) {
            int w = -worth(behind(s, m / 100, m % 100), depth - 1);
            if (w > bestWorth) {
                bestWorth = w;
                best = m;
            }
        }
        return best;
    }

    void act(State then) {
        history.add(now);
        if (history.size() > 4) {
            history.remove(0);
        }
        now = then;
    }

    int go(int from, int to, boolean capture) {
        if (bad(from) || bad(to)) {
            return UNKNOWN;
        }
        int why = why(now, from, to, capture);
        if (why != 0) {
            return -110 - why;
        }
        act(behind(now, from, to));
        return capture ? now.pieces(now.side) : now.quiet;
    }

    int play(int depth) {
        int m = best(depth);
        if (m == NONE) {
            return NOT_POSSIBLE;
        }
        if (m >= 0) {
            act(behind(now, m / 100, m % 100));
        }
        return m;
    }

    int setUp(int point, int side) {
        if (bad(point)) {
            return UNKNOWN;
        }
        if (side < 0 || side > 2) {
            return BAD_VALUE;
        }
        int stood = now.board[point];
        if (stood == side) {
            return NONE;
        }
        State then = now.copy();
        then.board[point] = side;
        then.quiet = 0;
        then.forget();
        act(then);
        return stood;
    }

    int turn() {
        State then = now.copy();
        then.side = 3 - then.side;
        then.quiet = 0;
        then.forget();
        act(then);
        return then.side;
    }

    int begin() {
        int left = now.pieces(1) + now.pieces(2);
        act(fresh(now.limit));
        return left;
    }

    int setLimit(int moves) {
        if (moves < 4 || moves > 60) {
            return BAD_VALUE;
        }
        if (moves == now.limit) {
            return NONE;
        }
        int previous = now.limit;
        State then = now.copy();
        then.limit = moves;
        act(then);
        return previous;
    }

    int type(char c) {
        if (text.length() == 80) {
            return FULL;
        }
        return text.append(c).length();
    }

    int clearText() {
        int had = text.length();
        text = new StringBuilder();
        return had;
    }

    /** The first length of the text that begins no text of moves, or the text is too short. */
    static int fault(String text) {
        String whole = "a1-a1;".repeat(16);
        Pattern moves = Pattern.compile("([a-f][1-6][-x][a-f][1-6];)*[a-f][1-6][-x][a-f][1-6]", Pattern.DOTALL);
        for (int n = 1; n <= text.length(); n++) {
            String filled = text.substring(0, n) + whole.substring(n, (n + 6) / 6 * 6 + 5);
            if (!moves.matcher(filled).matches()) {
                return n - 1;
            }
        }
        return moves.matcher(text).matches() ? -1 : text.length();
    }

    int perform() {
        int fault = fault(text.toString());
        if (fault >= 0) {
            return -200 - fault;
        }
        String[] parts = text.toString().split(";");
        State then = now;
        for (int i = 0; i < parts.length; i++) {
            String m = parts[i];
            int from = (m.charAt(1) - '1') * 6 + m.charAt(0) - 'a';
            int to = (m.charAt(4) - '1') * 6 + m.charAt(3) - 'a';
            int why = why(then, from, to, m.charAt(2) == 'x');
            if (why != 0) {
                stop = new int[] {i, why};
                return NOT_POSSIBLE;
            }
            then = behind(then, from, to);
        }
        act(then);
        return parts.length;
    }

    int stopped(int what) {
        if (what != 0 && what != 1) {
            return BAD_VALUE;
        }
        return stop == null ? NONE : stop[what];
    }

    int undo() {
        if (history.isEmpty()) {
            return NONE;
        }
        now = history.remove(history.size() - 1);
        return history.size();
    }

    int keep() {
        snapshot = now;
        return now.pieces(1) + now.pieces(2);
    }

    int restore() {
        if (snapshot == null) {
            return NONE;
        }
        act(snapshot);
        return now.pieces(1) + now.pieces(2);
    }

    int point(int point, int what) {
        if (bad(point)) {
            return UNKNOWN;
        }
        if (what < 0 || what > 4) {
            return BAD_VALUE;
        }
        int side = now.board[point];
        if (what == 0 || side == 0) {
            return side;
        }
        State changed = now.copy();
        changed.board[point] = 3 - side;
        int n = 0;
        for (int p = 0; p < 36; p++) {
            boolean counts = what == 1 ? couldCapture(now, p, point)
                : what == 2 ? couldCapture(changed, p, point) && now.board[p] == side
                : what == 3 ? couldCapture(now, point, p)
                : couldStep(now, point, p);
            n += counts ? 1 : 0;
        }
        return n;
    }

    int way(int from, int to, int what) {
        if (bad(from) || bad(to)) {
            return UNKNOWN;
        }
        if (what < 0 || what > 4) {
            return BAD_VALUE;
        }
        if (!couldCapture(now, from, to)) {
            return NONE;
        }
        int[] way = bestWay(now, from, to);
        return what == 4 ? 1 - way[4] : way[what];
    }

    int circuit(int circuit, int place) {
        if (circuit < 0 || circuit > 1 || place < 0 || place > 23) {
            return UNKNOWN;
        }
        return line(circuit)[place];
    }

    int reason(int from, int to, boolean capture) {
        return bad(from) || bad(to) ? UNKNOWN : why(now, from, to, capture);
    }

    int possible(int rank) {
        if (rank < 0) {
            return BAD_VALUE;
        }
        List<Integer> moves = moves(now);
        return rank < moves.size() ? moves.get(rank) : NONE;
    }

    int look(int depth) {
        return depth < 0 || depth > 2 ? BAD_VALUE : worth(now, depth);
    }

    int best(int depth) {
        if (depth < 1 || depth > 2) {
            return BAD_VALUE;
        }
        int m = bestOf(now, depth);
        return m < 0 ? NONE : m;
    }

    int count(int what) {
        switch (what) {
            case 0: return now.side;
            case 1: return now.pieces(1);
            case 2: return now.pieces(2);
            case 3: return now.quiet;
            case 4: return now.result();
            case 5: return moves(now, true).size();
            case 6: return moves(now, false).size();
            case 7: return now.moves;
            case 8: return now.captures;
            case 9:
                List<String> all = now.positions;
                List<String> latest = all.subList(Math.max(0, all.size() - 60), all.size());
                return Collections.frequency(latest, now.position());
            case 10: return now.limit;
            case 11:
                int n = 0;
                for (int p = 0; p < 36; p++) {
                    if (now.board[p] == now.side && point(p, 1) > 0) {
                        n++;
                    }
                }
                return n;
            case 12: return history.size();
            case 13: return text.length();
            default: return BAD_VALUE;
        }
    }
}
