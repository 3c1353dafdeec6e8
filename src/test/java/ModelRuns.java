import java.util.Random;

/** Random runs of 512 calls, each answer compared with that of the model. */
public final class ModelRuns {
    private static final int RUNS = 60;
    private static final int CALLS = 512;
    private static final String SIGNS = "abcdef123456-x;;gA70 +\u0000\u00e9\uffff";

    private final Random random;
    private final String name;
    private final LoopCaptures x = new LoopCaptures();
    private final Model m = new Model();
    private int calls = 0;

    private ModelRuns(int seed) {
        random = new Random(seed);
        name = "run " + seed + ", call ";
    }

    public static void main(String[] args) {
        for (int seed = 1; seed <= RUNS; seed++) {
            new ModelRuns(seed).run(seed % 4);
        }
        Check.finish("ModelRuns");
    }

    private void run(int kind) {
        if (kind > 0) {
            thinOut(kind * 30);
        }
        while (calls < CALLS) {
            switch (random.nextInt(12)) {
                case 0: change(); break;
                case 1: typeSomething(); break;
                case 2: historyCall(); break;
                case 3: case 4: case 5: moveSomething(); break;
                case 6: ahead(); break;
                default: tell(); break;
            }
        }
    }

    private void due(String call, int got, int want) {
        calls++;
        Check.due(name + calls + ": " + call, got, want);
    }

    private void thinOut(int percent) {
        for (int p = 0; p < 36; p++) {
            if (random.nextInt(100) < percent) {
                due("setUp", x.setUp(p, 0), m.setUp(p, 0));
            } else {
                int side = random.nextInt(3);
                due("setUp", x.setUp(p, side), m.setUp(p, side));
            }
        }
    }

    /** A point, now and then one that is none. */
    private int somePoint() {
        int r = random.nextInt(60);
        return r == 0 ? -1 : r == 1 ? 36 : r == 2 ? random.nextInt() : random.nextInt(36);
    }

    /** Mostly a point with a piece, if there is one. */
    private int somePiece() {
        int p = somePoint();
        for (int i = 0; i < 30 && (Model.bad(p) || m.now.board[p] == 0); i++) {
            p = somePoint();
        }
        return p;
    }

    private int some(int least, int most) {
        return random.nextInt(40) == 0 ? random.nextInt() : least + random.nextInt(most - least + 1);
    }

    private void change() {
        int p = somePoint();
        switch (random.nextInt(7)) {
            case 0: case 1: case 2: case 3:
                int side = some(-1, 3);
                due("setUp(" + p + ", " + side + ")", x.setUp(p, side), m.setUp(p, side));
                break;
            case 4:
                due("turn()", x.turn(), m.turn());
                break;
            case 5:
                int limit = random.nextBoolean() ? some(3, 8) : some(3, 61);
                due("setLimit(" + limit + ")", x.setLimit(limit), m.setLimit(limit));
                break;
            default:
                if (random.nextInt(6) == 0) {
                    due("begin()", x.begin(), m.begin());
                }
                break;
        }
    }

    private void typeAll(String text) {
        for (int i = 0; i < text.length(); i++) {
            due("type()", x.type(text.charAt(i)), m.type(text.charAt(i)));
        }
    }

    private static String nameOf(int p) {
        return "" + (char) ('a' + p % 6) + (char) ('1' + p / 6);
    }

    private void typeSomething() {
        if (random.nextInt(3) > 0) {
            due("clearText()", x.clearText(), m.clearText());
        }
        if (random.nextInt(12) == 0) {
            typeAll(SIGNS.repeat(4).substring(random.nextInt(20)));
        }
        Model.State s = m.now;
        int moves = 1 + random.nextInt(4);
        for (int i = 0; i < moves && !Model.moves(s).isEmpty(); i++) {
            int move = Model.moves(s).get(random.nextInt(Model.moves(s).size()));
            String sign = s.board[move % 100] == 0 ? "-" : "x";
            if (random.nextInt(12) == 0) {
                sign = "x";
            }
            typeAll((i == 0 ? "" : ";") + nameOf(move / 100) + sign + nameOf(move % 100));
            s = Model.behind(s, move / 100, move % 100);
        }
        if (random.nextInt(6) == 0) {
            typeAll("" + SIGNS.charAt(random.nextInt(SIGNS.length())));
        }
        due("perform()", x.perform(), m.perform());
        int what = some(-1, 2);
        due("stopped(" + what + ")", x.stopped(what), m.stopped(what));
    }

    private void historyCall() {
        switch (random.nextInt(4)) {
            case 0: due("keep()", x.keep(), m.keep()); break;
            case 1: due("restore()", x.restore(), m.restore()); break;
            default: due("undo()", x.undo(), m.undo()); break;
        }
    }

    private void moveSomething() {
        int from = somePoint();
        int to = somePoint();
        int rank = random.nextInt(random.nextBoolean() ? 3 : 60);
        int move = m.possible(rank);
        if (move >= 0 && random.nextInt(5) > 0) {
            from = move / 100;
            to = move % 100;
        }
        String points = "(" + from + ", " + to + ")";
        boolean capture = Model.bad(to) ? random.nextBoolean() : m.now.board[to] != 0;
        if (capture != (random.nextInt(8) == 0)) {
            due("capture" + points, x.capture(from, to), m.go(from, to, true));
        } else {
            due("move" + points, x.move(from, to), m.go(from, to, false));
        }
    }

    private void ahead() {
        int depth = some(-1, 3);
        switch (random.nextInt(3)) {
            case 0: due("look(" + depth + ")", x.look(depth), m.look(depth)); break;
            case 1: due("best(" + depth + ")", x.best(depth), m.best(depth)); break;
            default: due("play(" + depth + ")", x.play(depth), m.play(depth)); break;
        }
    }

    private void tell() {
        int from = random.nextInt(4) == 0 ? somePoint() : somePiece();
        int to = random.nextInt(4) == 0 ? somePoint() : somePiece();
        int what = some(-1, 5);
        boolean capture = random.nextBoolean();
        switch (random.nextInt(6)) {
            case 0: due("point(" + from + ", " + what + ")", x.point(from, what), m.point(from, what)); break;
            case 1: due("way(" + from + ", " + to + ", " + what + ")", x.way(from, to, what), m.way(from, to, what)); break;
            case 2:
                int circuit = some(-1, 2);
                int place = some(-1, 24);
                due("circuit(" + circuit + ", " + place + ")", x.circuit(circuit, place), m.circuit(circuit, place));
                break;
            case 3: due("reason(" + from + ", " + to + ")", x.reason(from, to, capture), m.reason(from, to, capture)); break;
            case 4:
                int rank = random.nextInt(8) == 0 ? random.nextInt() : random.nextInt(50);
                due("possible(" + rank + ")", x.possible(rank), m.possible(rank));
                break;
            default:
                int number = some(-1, 14);
                due("count(" + number + ")", x.count(number), m.count(number));
                break;
        }
    }
}
