/** A game on six by six points in which pieces capture around the corners. */
public final class LoopCaptures {
    /** There is no such point, circuit or place. */
    public static final int UNKNOWN = -101;
    /** Another argument is out of range. */
    public static final int BAD_VALUE = -102;
    /** The text is full. */
    public static final int FULL = -103;
    /** This is not possible. */
    public static final int NOT_POSSIBLE = -104;
    /** There is no such thing; not an error. */
    public static final int NONE = -105;
    /** A move is not possible: this minus the reason is returned. */
    public static final int NO_MOVE = -110;

    private static final int WIDTH = 6;
    private static final int POINTS = 36;
    private static final int CIRCUITS = 2;
    private static final int PLACES = 24;
    private static final int NOWHERE = -1;
    private static final int NOTHING = 0;
    private static final int SIDES_SUM = 3;
    private static final int GOES_ON = 0;
    private static final int DRAWN = 3;
    private static final int LEAST_LIMIT = 4;
    private static final int GREATEST_LIMIT = 60;
    private static final int FIRST_LIMIT = 20;
    private static final int DEEPEST = 2;
    private static final int FROM_FACTOR = 100;
    private static final int TEXT_FAULT = -200;

    private static final int POSSIBLE = 0;
    private static final int GAME_OVER = 1;
    private static final int NOT_OWN = 2;
    private static final int ON_OWN = 3;
    private static final int NO_SUCH_MOVE = 4;

    private final Circuits circuits;
    private final Way foundWay;
    private final Rules rules;
    private final MoveList moveList;
    private final Lookahead lookahead;
    private final State now;
    private final State before;
    private final State snapshot;
    private final History history;
    private final MoveText text;
    private boolean hasSnapshot;
    private boolean hasStopped;
    private int stopNumber;
    private int stopReason;

    /** Creates a game at its beginning. */
    public LoopCaptures() {
        circuits = new Circuits();
        foundWay = new Way(circuits);
        rules = new Rules(circuits, foundWay);
        moveList = new MoveList();
        lookahead = new Lookahead(rules);
        now = new State();
        before = new State();
        snapshot = new State();
        history = new History();
        text = new MoveText();
    }

    // ---- moves

    /** Makes a quiet move. */
    public int move(int from, int to) {
        if (!isPoint(from) || !isPoint(to)) {
            return UNKNOWN;
        }
        int why = rules.whyNot(now.board, from, to, false);
        if (why != POSSIBLE) {
            return NO_MOVE - why;
        }
        history.push(now);
        now.makeMove(from, to);
        return now.board.quietMoves();
    }

    /** Makes a capture. */
    public int capture(int from, int to) {
        if (!isPoint(from) || !isPoint(to)) {
            return UNKNOWN;
        }
        int why = rules.whyNot(now.board, from, to, true);
        if (why != POSSIBLE) {
            return NO_MOVE - why;
        }
        history.push(now);
        now.makeMove(from, to);
        // The side that lost the piece is the one to move now.
        return now.board.piecesOf(now.board.sideToMove());
    }

    /** Makes the best move by a look ahead. */
    public int play(int depth) {
        if (depth < 1 || depth > DEEPEST) {
            return BAD_VALUE;
        }
        int chosen = lookahead.bestMove(now.board, depth);
        if (chosen < 0) {
            return NOT_POSSIBLE;
        }
        history.push(now);
        now.makeMove(chosen / FROM_FACTOR, chosen % FROM_FACTOR);
        return chosen;
    }

    // ---- boards, settings

    /** Sets what stands at a point. */
    public int setUp(int point, int side) {
        if (!isPoint(point)) {
            return UNKNOWN;
        }
        if (side < 0 || side > 2) {
            return BAD_VALUE;
        }
        int stood = now.board.at(point);
        if (stood == side) {
            return NONE;
        }
        history.push(now);
        now.place(point, side);
        return stood;
    }

    /** Lets the other side be to move. */
    public int turn() {
        history.push(now);
        now.changeSide();
        return now.board.sideToMove();
    }

    /** Begins the game anew; settings stay. */
    public int begin() {
        int left = now.board.allPieces();
        history.push(now);
        now.startAnew();
        return left;
    }

    /** Sets how many quiet moves behind the latest capture make the game drawn. */
    public int setLimit(int moves) {
        if (moves < LEAST_LIMIT || moves > GREATEST_LIMIT) {
            return BAD_VALUE;
        }
        int previous = now.board.limit();
        if (previous == moves) {
            return NONE;
        }
        history.push(now);
        now.board.changeLimit(moves);
        return previous;
    }

    // ---- texts

    /** Types a character behind the text. */
    public int type(char character) {
        return text.append(character) ? text.length() : FULL;
    }

    /** Empties the text. */
    public int clearText() {
        int had = text.length();
        text.empty();
        return had;
    }

    /** Makes the moves of the text, all of them or none. */
    public int perform() {
        int fault = text.fault();
        if (fault >= 0) {
            return TEXT_FAULT - fault;
        }
        before.copyFrom(now);
        int moves = text.moves();
        for (int number = 0; number < moves; number++) {
            int from = text.fromOf(number);
            int to = text.toOf(number);
            int why = rules.whyNot(now.board, from, to, text.isCapture(number));
            if (why != POSSIBLE) {
                noteStop(number, why);
                now.copyFrom(before);
                return NOT_POSSIBLE;
            }
            now.makeMove(from, to);
        }
        history.push(before);
        return moves;
    }

    /** Tells of the latest stop of perform(). */
    public int stopped(int what) {
        if (what < 0 || what > 1) {
            return BAD_VALUE;
        }
        if (!hasStopped) {
            return NONE;
        }
        return what == 0 ? stopNumber : stopReason;
    }

    // ---- history

    /** Removes and restores the latest state of the history. */
    public int undo() {
        if (history.size() == 0) {
            return NONE;
        }
        history.takeLatest(now);
        return history.size();
    }

    /** Takes a snapshot of the state, in place of the one that was. */
    public int keep() {
        snapshot.copyFrom(now);
        hasSnapshot = true;
        return now.board.allPieces();
    }

    /** Restores the state of the snapshot, which stays. */
    public int restore() {
        if (!hasSnapshot) {
            return NONE;
        }
        history.push(now);
        now.copyFrom(snapshot);
        return now.board.allPieces();
    }

    // ---- what is told

    /** Tells of a point: what stands there, its threats, covers, captures and quiet moves. */
    public int point(int point, int what) {
        if (!isPoint(point)) {
            return UNKNOWN;
        }
        switch (what) {
            case 0:
                return now.board.at(point);
            case 1:
                return rules.threatsTo(now.board, point);
            case 2:
                return rules.coversOf(now.board, point);
            case 3:
                return rules.capturesFrom(now.board, point);
            case 4:
                return rules.quietMovesFrom(now.board, point);
            default:
                return BAD_VALUE;
        }
    }

    /** Tells the way of a capture, whichever side is to move. */
    public int way(int from, int to, int what) {
        if (!isPoint(from) || !isPoint(to)) {
            return UNKNOWN;
        }
        if (what < 0 || what > 4) {
            return BAD_VALUE;
        }
        if (!rules.couldCapture(now.board, from, to)) {
            return NONE;
        }
        switch (what) {
            case 0:
                return foundWay.loops;
            case 1:
                return foundWay.steps;
            case 2:
                return foundWay.spot / PLACES;
            case 3:
                return foundWay.spot % PLACES;
            default:
                return foundWay.direction > 0 ? 1 : 0;
        }
    }

    /** Tells the point at a place of a circuit. */
    public int circuit(int circuit, int place) {
        if (circuit < 0 || circuit >= CIRCUITS || place < 0 || place >= PLACES) {
            return UNKNOWN;
        }
        return circuits.pointAt(circuit * PLACES + place);
    }

    /** Tells why a move is not possible. */
    public int reason(int from, int to, boolean capture) {
        if (!isPoint(from) || !isPoint(to)) {
            return UNKNOWN;
        }
        return rules.whyNot(now.board, from, to, capture);
    }

    /** Tells a possible move of the side that is to move, in their order. */
    public int possible(int rank) {
        if (rank < 0) {
            return BAD_VALUE;
        }
        rules.listMoves(now.board, moveList);
        return rank < moveList.size() ? moveList.get(rank) : NONE;
    }

    /** Looks ahead. */
    public int look(int depth) {
        if (depth < 0 || depth > DEEPEST) {
            return BAD_VALUE;
        }
        return lookahead.worthAhead(now.board, depth);
    }

    /** Finds the move by which the look ahead is the greatest. */
    public int best(int depth) {
        if (depth < 1 || depth > DEEPEST) {
            return BAD_VALUE;
        }
        int chosen = lookahead.bestMove(now.board, depth);
        return chosen < 0 ? NONE : chosen;
    }

    /** Counts. */
    public int count(int what) {
        switch (what) {
            case 0:
                return now.board.sideToMove();
            case 1:
            case 2:
                return now.board.piecesOf(what);
            case 3:
                return now.board.quietMoves();
            case 4:
                return now.board.result();
            case 5:
                return possibleMoves(true);
            case 6:
                return possibleMoves(false);
            case 7:
                return now.moves;
            case 8:
                return now.captures;
            case 9:
                return now.timesSeen();
            case 10:
                return now.board.limit();
            case 11:
                return rules.threatened(now.board);
            case 12:
                return history.size();
            case 13:
                return text.length();
            default:
                return BAD_VALUE;
        }
    }

    private static boolean isPoint(int point) {
        return point >= 0 && point < POINTS;
    }

    private int possibleMoves(boolean captures) {
        rules.listMoves(now.board, moveList);
        return captures ? moveList.captures() : moveList.size() - moveList.captures();
    }

    private void noteStop(int number, int why) {
        hasStopped = true;
        stopNumber = number;
        stopReason = why;
    }

    /**
     * The tables of the circuits. A spot is a place of a circuit in one number,
     * 24 times the circuit and the place, so that spots stand in the order of ways.
     */
    private static final class Circuits {
        private static final int SPOTS = CIRCUITS * PLACES;
        private static final int SPOTS_OF_POINT = 2;

        private final int[] points = new int[SPOTS];
        private final int[] spots = new int[POINTS * SPOTS_OF_POINT];

        Circuits() {
            for (int circuit = 0; circuit < CIRCUITS; circuit++) {
                layOut(circuit);
            }
            for (int i = 0; i < spots.length; i++) {
                spots[i] = NOWHERE;
            }
            for (int spot = 0; spot < points.length; spot++) {
                addSpot(points[spot], spot);
            }
        }

        private void layOut(int circuit) {
            int near = 1 + circuit;
            int far = 5 - near;
            int start = circuit * PLACES;
            for (int i = 0; i < WIDTH; i++) {
                int back = WIDTH - 1 - i;
                put(start + i, near, i);
                put(start + WIDTH + i, i, far);
                put(start + 2 * WIDTH + i, far, back);
                put(start + 3 * WIDTH + i, back, near);
            }
        }

        private void put(int spot, int row, int column) {
            if (spot >= 0 && spot < points.length) {
                points[spot] = row * WIDTH + column;
            }
        }

        private void addSpot(int point, int spot) {
            // A point is at one place by its row at most, and at one by its column.
            for (int nth = 0; nth < SPOTS_OF_POINT; nth++) {
                int index = point * SPOTS_OF_POINT + nth;
                if (index >= 0 && index < spots.length && spots[index] == NOWHERE) {
                    spots[index] = spot;
                    return;
                }
            }
        }

        int pointAt(int spot) {
            return spot >= 0 && spot < points.length ? points[spot] : NOWHERE;
        }

        int spotOf(int point, int nth) {
            int index = point * SPOTS_OF_POINT + nth;
            return index >= 0 && index < spots.length ? spots[index] : NOWHERE;
        }
    }

    /** A going along a circuit from a spot until a piece is met. */
    private static final class Walk {
        private final Circuits circuits;
        int met;
        int loops;
        int steps;

        Walk(Circuits circuits) {
            this.circuits = circuits;
        }

        /** The direction is 1 for forwards, -1 for backwards. */
        void go(Board board, int spot, int direction) {
            met = NOWHERE;
            loops = 0;
            steps = 0;
            int own = circuits.pointAt(spot);
            int place = spot % PLACES;
            int start = spot - place;
            int placeAtLoop = direction > 0 ? WIDTH - 1 : 0;
            for (int step = 1; step < PLACES; step++) {
                if (place % WIDTH == placeAtLoop) {
                    loops++;
                }
                place = (place + direction + PLACES) % PLACES;
                int point = circuits.pointAt(start + place);
                if (point != own && board.at(point) != NOTHING) {
                    met = point;
                    steps = step;
                    return;
                }
            }
        }

        boolean wentOverLoopTo(int point) {
            return loops > 0 && met == point;
        }
    }

    /** The way that matters from one point to the piece at another. */
    private static final class Way {
        private final Circuits circuits;
        private final Walk walk;
        int loops;
        int steps;
        int spot;
        int direction;

        Way(Circuits circuits) {
            this.circuits = circuits;
            this.walk = new Walk(circuits);
        }

        /** Whether there is a way, whatever the sides of the pieces are. */
        boolean find(Board board, int from, int to) {
            loops = 0;
            for (int nth = 0; nth < Circuits.SPOTS_OF_POINT; nth++) {
                int start = circuits.spotOf(from, nth);
                if (start != NOWHERE) {
                    tryFrom(board, start, 1, to);
                    tryFrom(board, start, -1, to);
                }
            }
            return loops > 0;
        }

        private void tryFrom(Board board, int start, int towards, int to) {
            walk.go(board, start, towards);
            // A way that is as short does not replace an earlier one: the first matters.
            if (walk.wentOverLoopTo(to) && (loops == 0 || walkIsShorter())) {
                loops = walk.loops;
                steps = walk.steps;
                spot = start;
                direction = towards;
            }
        }

        private boolean walkIsShorter() {
            return walk.loops < loops || walk.loops == loops && walk.steps < steps;
        }
    }

    /** What stands at the points, who is to move, and what the end depends on. */
    private static final class Board {
        private final int[] stands = new int[POINTS];
        private int ones;
        private int twos;
        private int side;
        private int quiet;
        private int limit;

        Board() {
            limit = FIRST_LIMIT;
            startAnew();
        }

        void startAnew() {
            for (int point = 0; point < POINTS; point++) {
                put(point, firstSideAt(point));
            }
            side = 1;
            quiet = 0;
        }

        private static int firstSideAt(int point) {
            if (point < 2 * WIDTH) {
                return 1;
            }
            return point < POINTS - 2 * WIDTH ? NOTHING : 2;
        }

        void copyFrom(Board other) {
            for (int point = 0; point < POINTS; point++) {
                stands[point] = other.stands[point];
            }
            ones = other.ones;
            twos = other.twos;
            side = other.side;
            quiet = other.quiet;
            limit = other.limit;
        }

        int at(int point) {
            return point >= 0 && point < stands.length ? stands[point] : NOTHING;
        }

        void put(int point, int what) {
            if (point < 0 || point >= stands.length) {
                return;
            }
            tally(stands[point], -1);
            tally(what, 1);
            stands[point] = what;
        }

        private void tally(int what, int change) {
            if (what == 1) {
                ones += change;
            } else if (what == 2) {
                twos += change;
            }
        }

        int piecesOf(int ofSide) {
            return ofSide == 1 ? ones : twos;
        }

        int allPieces() {
            return ones + twos;
        }

        int sideToMove() {
            return side;
        }

        int quietMoves() {
            return quiet;
        }

        int limit() {
            return limit;
        }

        void changeLimit(int moves) {
            limit = moves;
        }

        void forgetQuietMoves() {
            quiet = 0;
        }

        void changeSide() {
            side = SIDES_SUM - side;
        }

        int result() {
            if (ones == 0 && twos == 0) {
                return DRAWN;
            }
            if (twos == 0) {
                return 1;
            }
            if (ones == 0) {
                return 2;
            }
            return quiet >= limit ? DRAWN : GOES_ON;
        }

        int worth() {
            return side == 1 ? ones - twos : twos - ones;
        }

        /** Makes a move that is possible; answers what stood where it goes. */
        int make(int from, int to) {
            int taken = at(to);
            put(to, side);
            put(from, NOTHING);
            quiet = taken == NOTHING ? quiet + 1 : 0;
            changeSide();
            return taken;
        }

        void takeBack(int from, int to, int taken, int quietBefore) {
            changeSide();
            put(from, side);
            put(to, taken);
            quiet = quietBefore;
        }

        /** A number that no other position has: three to the 36th, twice, fits a long. */
        long key() {
            long key = side;
            for (int point = 0; point < POINTS; point++) {
                key = key * 3 + stands[point];
            }
            return key;
        }
    }

    /** Moves as 100 times the point from which they go, and the one to which. */
    private static final class MoveList {
        // There are 220 steps between neighbours and 4 goings from each point.
        private static final int MOST = 220 + 4 * POINTS;

        private final int[] moves = new int[MOST];
        private int size;
        private int captures;

        void clear() {
            size = 0;
            captures = 0;
        }

        int size() {
            return size;
        }

        int captures() {
            return captures;
        }

        int get(int rank) {
            return rank >= 0 && rank < size && rank < moves.length ? moves[rank] : NOWHERE;
        }

        void addQuiet(int move) {
            if (size >= 0 && size < moves.length) {
                moves[size] = move;
                size++;
            }
        }

        /** Captures come before quiet moves are added; one by two ways is kept once. */
        void addCapture(int move) {
            if (size < 0 || size >= moves.length) {
                return;
            }
            int rank = size;
            while (rank > 0 && moves[rank - 1] > move) {
                rank--;
            }
            if (rank > 0 && moves[rank - 1] == move) {
                return;
            }
            for (int i = size; i > rank; i--) {
                moves[i] = moves[i - 1];
            }
            moves[rank] = move;
            size++;
            captures = size;
        }
    }

    /** What is possible on a board. */
    private static final class Rules {
        private final Circuits circuits;
        private final Walk walk;
        private final Way way;

        Rules(Circuits circuits, Way way) {
            this.circuits = circuits;
            this.walk = new Walk(circuits);
            this.way = way;
        }

        int whyNot(Board board, int from, int to, boolean capture) {
            if (board.result() != GOES_ON) {
                return GAME_OVER;
            }
            int side = board.sideToMove();
            if (board.at(from) != side) {
                return NOT_OWN;
            }
            if (board.at(to) == side) {
                return ON_OWN;
            }
            boolean such = capture ? couldCapture(board, from, to) : couldStep(board, from, to);
            return such ? POSSIBLE : NO_SUCH_MOVE;
        }

        /** Whichever side is to move, and whether the game is over or not. */
        boolean couldCapture(Board board, int from, int to) {
            return areOfTwoSides(board.at(from), board.at(to)) && way.find(board, from, to);
        }

        private static boolean areOfTwoSides(int one, int other) {
            return one != NOTHING && other != NOTHING && one != other;
        }

        private static boolean couldStep(Board board, int from, int to) {
            return board.at(to) == NOTHING
                && Math.abs(from / WIDTH - to / WIDTH) <= 1
                && Math.abs(from % WIDTH - to % WIDTH) <= 1;
        }

        int threatsTo(Board board, int point) {
            int threats = 0;
            for (int from = 0; from < POINTS; from++) {
                if (couldCapture(board, from, point)) {
                    threats++;
                }
            }
            return threats;
        }

        /** A way ends at a piece of either side, so that the piece may stay where it is for this. */
        int coversOf(Board board, int point) {
            int side = board.at(point);
            int covers = 0;
            for (int from = 0; from < POINTS && side != NOTHING; from++) {
                if (from != point && board.at(from) == side && way.find(board, from, point)) {
                    covers++;
                }
            }
            return covers;
        }

        int capturesFrom(Board board, int point) {
            int captures = 0;
            for (int to = 0; to < POINTS; to++) {
                if (couldCapture(board, point, to)) {
                    captures++;
                }
            }
            return captures;
        }

        int quietMovesFrom(Board board, int point) {
            int moves = 0;
            for (int to = 0; to < POINTS && board.at(point) != NOTHING; to++) {
                if (couldStep(board, point, to)) {
                    moves++;
                }
            }
            return moves;
        }

        int threatened(Board board) {
            int pieces = 0;
            for (int point = 0; point < POINTS; point++) {
                if (board.at(point) == board.sideToMove() && threatsTo(board, point) > 0) {
                    pieces++;
                }
            }
            return pieces;
        }

        void listMoves(Board board, MoveList list) {
            list.clear();
            if (board.result() != GOES_ON) {
                return;
            }
            int side = board.sideToMove();
            for (int from = 0; from < POINTS; from++) {
                if (board.at(from) == side) {
                    listCaptures(board, from, list);
                }
            }
            for (int from = 0; from < POINTS; from++) {
                if (board.at(from) == side) {
                    listQuietMoves(board, from, list);
                }
            }
        }

        private void listCaptures(Board board, int from, MoveList list) {
            int other = SIDES_SUM - board.at(from);
            for (int nth = 0; nth < Circuits.SPOTS_OF_POINT; nth++) {
                int spot = circuits.spotOf(from, nth);
                for (int direction = 1; direction >= -1 && spot != NOWHERE; direction -= 2) {
                    walk.go(board, spot, direction);
                    if (walk.loops > 0 && walk.met != NOWHERE && board.at(walk.met) == other) {
                        list.addCapture(from * FROM_FACTOR + walk.met);
                    }
                }
            }
        }

        private static void listQuietMoves(Board board, int from, MoveList list) {
            int row = from / WIDTH;
            int column = from % WIDTH;
            for (int r = Math.max(0, row - 1); r <= Math.min(WIDTH - 1, row + 1); r++) {
                for (int c = Math.max(0, column - 1); c <= Math.min(WIDTH - 1, column + 1); c++) {
                    int to = r * WIDTH + c;
                    if (board.at(to) == NOTHING) {
                        list.addQuiet(from * FROM_FACTOR + to);
                    }
                }
            }
        }
    }

    /** Looks ahead on a board of its own, on which moves are made and taken back. */
    private static final class Lookahead {
        private static final int BELOW_ALL = -1000;

        private final Rules rules;
        private final Board board = new Board();
        private final MoveList movesAtOne = new MoveList();
        private final MoveList movesAtTwo = new MoveList();
        private int chosen;

        Lookahead(Rules rules) {
            this.rules = rules;
        }

        int worthAhead(Board start, int depth) {
            board.copyFrom(start);
            return search(depth);
        }

        /** The first of the best moves; NOWHERE if none is possible. */
        int bestMove(Board start, int depth) {
            board.copyFrom(start);
            search(depth);
            return chosen;
        }

        /** The outermost search ends last, so that its choice is the one that stays. */
        private int search(int depth) {
            if (depth <= 0 || depth > DEEPEST) {
                return board.worth();
            }
            MoveList list = depth == 1 ? movesAtOne : movesAtTwo;
            rules.listMoves(board, list);
            int moves = list.size();
            int greatest = BELOW_ALL;
            int first = NOWHERE;
            for (int rank = 0; rank < moves; rank++) {
                int move = list.get(rank);
                int worth = -searchBehind(move, depth - 1);
                if (worth > greatest) {
                    greatest = worth;
                    first = move;
                }
            }
            chosen = first;
            return first == NOWHERE ? board.worth() : greatest;
        }

        /** Searches behind a move, which is taken back then. */
        private int searchBehind(int move, int depth) {
            int from = move / FROM_FACTOR;
            int to = move % FROM_FACTOR;
            int quiet = board.quietMoves();
            int taken = board.make(from, to);
            int worth = search(depth);
            board.takeBack(from, to, taken, quiet);
            return worth;
        }
    }

    /** All that undo() and restore() bring back. */
    private static final class State {
        private static final int MOST_SEEN = 60;

        final Board board = new Board();
        int moves;
        int captures;
        private final long[] seen = new long[MOST_SEEN];
        private int seenCount;

        State() {
            remember();
        }

        void startAnew() {
            board.startAnew();
            moves = 0;
            captures = 0;
            forgetPositions();
        }

        void makeMove(int from, int to) {
            moves++;
            if (board.make(from, to) == NOTHING) {
                remember();
            } else {
                captures++;
                forgetPositions();
            }
        }

        void place(int point, int side) {
            board.put(point, side);
            board.forgetQuietMoves();
            forgetPositions();
        }

        void changeSide() {
            board.changeSide();
            board.forgetQuietMoves();
            forgetPositions();
        }

        /** Forgets the positions before the one of now. */
        private void forgetPositions() {
            seenCount = 0;
            remember();
        }

        private void remember() {
            if (seenCount >= seen.length) {
                for (int i = 1; i < seen.length; i++) {
                    seen[i - 1] = seen[i];
                }
                seenCount = seen.length - 1;
            }
            if (seenCount >= 0 && seenCount < seen.length) {
                seen[seenCount] = board.key();
                seenCount++;
            }
        }

        int timesSeen() {
            long key = board.key();
            int times = 0;
            for (int i = 0; i < seenCount && i < seen.length; i++) {
                if (seen[i] == key) {
                    times++;
                }
            }
            return times;
        }

        void copyFrom(State other) {
            board.copyFrom(other.board);
            moves = other.moves;
            captures = other.captures;
            seenCount = other.seenCount;
            for (int i = 0; i < MOST_SEEN; i++) {
                seen[i] = other.seen[i];
            }
        }
    }

    /** The latest states, the oldest first, in objects that are used again. */
    private static final class History {
        private static final int MOST = 4;

        private final State[] states = new State[MOST];
        private int size;

        History() {
            for (int i = 0; i < states.length; i++) {
                states[i] = new State();
            }
        }

        int size() {
            return size;
        }

        void push(State state) {
            if (size >= states.length) {
                dropOldest();
            }
            if (size < 0 || size >= states.length) {
                return;
            }
            State slot = states[size];
            if (slot != null) {
                slot.copyFrom(state);
                size++;
            }
        }

        private void dropOldest() {
            State oldest = states[0];
            for (int i = 1; i < states.length; i++) {
                states[i - 1] = states[i];
            }
            states[states.length - 1] = oldest;
            size = states.length - 1;
        }

        void takeLatest(State into) {
            if (size < 1 || size > states.length) {
                return;
            }
            State latest = states[size - 1];
            if (latest != null) {
                into.copyFrom(latest);
                size--;
            }
        }
    }

    /** The text of moves: five characters each, and ";" between two. */
    private static final class MoveText {
        private static final int MOST = 80;
        private static final int PERIOD = 6;
        private static final int CAPTURE_SIGN = 'x';

        private final char[] characters = new char[MOST];
        private int length;

        int length() {
            return length;
        }

        void empty() {
            length = 0;
        }

        boolean append(char character) {
            if (length < 0 || length >= characters.length) {
                return false;
            }
            characters[length] = character;
            length++;
            return true;
        }

        /** The index of the fault; NOWHERE if the text has none. */
        int fault() {
            for (int i = 0; i < length; i++) {
                if (!isAllowed(at(i), i % PERIOD)) {
                    return i;
                }
            }
            return length % PERIOD == PERIOD - 1 ? NOWHERE : length;
        }

        private static boolean isAllowed(char character, int place) {
            switch (place) {
                case 0:
                case 3:
                    return character >= 'a' && character <= 'f';
                case 1:
                case 4:
                    return character >= '1' && character <= '6';
                case 2:
                    return character == '-' || character == CAPTURE_SIGN;
                default:
                    return character == ';';
            }
        }

        /** How many moves a text without a fault has. */
        int moves() {
            return (length + 1) / PERIOD;
        }

        int fromOf(int number) {
            return pointAt(number * PERIOD);
        }

        int toOf(int number) {
            return pointAt(number * PERIOD + 3);
        }

        boolean isCapture(int number) {
            return at(number * PERIOD + 2) == CAPTURE_SIGN;
        }

        private int pointAt(int index) {
            return (at(index + 1) - '1') * WIDTH + at(index) - 'a';
        }

        private char at(int index) {
            return index >= 0 && index < length && index < characters.length ? characters[index] : ' ';
        }
    }
}
