/** The bounds of the arguments and the "Returns" lines of the promises 16 to 23; a test for each. */
public final class TellTests extends Games {
    private static final int[] WRONG_DEPTHS = {Integer.MIN_VALUE, -1, 3, 4, Integer.MAX_VALUE};

    private TellTests() {
    }

    public static void main(String[] args) {
        pointBounds();
        whatStandsThere();
        threats();
        threatsIfTheyWereToMove();
        covers();
        coversOfNothing();
        capturesOfAPoint();
        capturesIfItsSideWasToMove();
        quietMovesOfAPoint();
        aPointBehindTheEnd();
        wayBounds();
        wayNumbers();
        wayWhicheverSide();
        wayBehindTheEnd();
        wayIsNone();
        circuitBounds();
        reasonBounds();
        reasonWhetherACapture();
        possibleBounds();
        possibleReturns();
        lookBounds();
        bestBounds();
        bestReturns();
        ofSeveralTheFirst();
        countBounds();
        countSidesAndPieces();
        countQuietMoves();
        countResults();
        countPossibleMoves();
        countVeryManyMoves();
        countMovesMade();
        countPositionsAndSetting();
        countThreatened();
        countStatesAndText();
        countsThatAddUp();
        Check.finish("TellTests");
    }

    // Promise 16: point

    private static void pointBounds() {
        Check.sentence("`point`: 0 to 35 - `what`: 0 for what stands there", "to 4");
        LoopCaptures x = new LoopCaptures();
        int[] wrong = {-1, 5, Integer.MIN_VALUE, Integer.MAX_VALUE};
        for (int what : wrong) {
            Check.due("point(0, " + what + ")", x.point(0, what), BAD_VALUE);
            Check.due("point(17, " + what + ")", x.point(17, what), BAD_VALUE);
            Check.due("point(35, " + what + ")", x.point(35, what), BAD_VALUE);
            for (int point : WRONG_POINTS) {
                Check.due("point(" + point + ", " + what + ")", x.point(point, what), UNKNOWN);
            }
        }
        for (int point : WRONG_POINTS) {
            Check.due("point(" + point + ", 0)", x.point(point, 0), UNKNOWN);
            Check.due("point(" + point + ", 4)", x.point(point, 4), UNKNOWN);
        }
    }

    private static void whatStandsThere() {
        Check.sentence("0 for what stands there (0 for nothing)");
        LoopCaptures x = board(at(0, 17), at(18, 35));
        Check.due("the side 1 at 0", x.point(0, 0), 1);
        Check.due("the side 1", x.point(17, 0), 1);
        Check.due("the side 2", x.point(18, 0), 2);
        Check.due("the side 2 at 35", x.point(35, 0), 2);
        Check.due("nothing", x.point(1, 0), 0);
    }

    private static void threats() {
        Check.sentence("1 for how many pieces of the other side could capture it, if they were to move (0 for nothing)");
        LoopCaptures x = board(at(8), at(4, 1, 12, 18));
        Check.due("by four", x.point(8, 1), 4);
        int[] twos = {4, 1, 12, 18};
        for (int p : twos) {
            Check.due("by one: " + p, x.point(p, 1), 1);
        }
        Check.due("nothing", x.point(9, 1), 0);
        Check.due("nothing on a way", x.point(11, 1), 0);
        x.setUp(9, 2);
        Check.due("one way is shut by a piece that has none", x.point(8, 1), 3);
        x.setUp(9, 0);
        x.setUp(11, 1);
        Check.due("one way is shut by an own piece", x.point(8, 1), 3);
        Check.due("what stands ahead is threatened", x.point(11, 1), 1);
        Check.due("a corner", board(at(0), at(1, 6, 7, 10)).point(0, 1), 0);
        Check.due("by the last points of the board", board(at(34, 31), at(24, 29)).point(34, 1), 1);
        Check.due("by the first points of the board", board(at(1, 4), at(6, 11)).point(4, 1), 1);
    }

    private static void threatsIfTheyWereToMove() {
        Check.sentence("could capture it, if they were to move");
        LoopCaptures x = board(at(8), at(4, 1, 12, 18));
        for (int turns = 0; turns < 3; turns++) {
            Check.due("of the side 1", x.point(8, 1), 4);
            Check.due("of the side 2", x.point(4, 1), 1);
            x.turn();
        }
    }

    private static void covers() {
        Check.sentence("2 for how many of its own side could capture there, "
            + "if a piece of the other side stood there instead");
        LoopCaptures x = board(at(8, 4, 1, 12, 18), at(35));
        Check.due("by four", x.point(8, 2), 4);
        Check.due("by c2, and by b1 the other way around", x.point(4, 2), 2);
        Check.due("no threats", x.point(8, 1), 0);
        LoopCaptures y = board(at(8), at(4, 1, 12, 18));
        Check.due("the other side does not cover", y.point(8, 2), 0);
        LoopCaptures z = board(at(10, 4), at(0));
        Check.due("each other: e2", z.point(10, 2), 1);
        Check.due("each other: e1", z.point(4, 2), 1);
        z.setUp(11, 2);
        Check.due("shut by the other side", z.point(10, 2), 0);
        z.setUp(11, 1);
        Check.due("shut by an own piece", z.point(10, 2), 0);
        Check.due("which is covered by both", z.point(11, 2), 2);
        LoopCaptures alone = board(at(7), at(0));
        Check.due("a piece does not cover itself", alone.point(7, 2), 0);
        Check.due("by the last points of the board", board(at(34, 29, 0), at(35)).point(34, 2), 1);
        LoopCaptures two = board(at(0), at(10, 4));
        Check.due("of the side that is not to move", two.point(10, 2), 1);
    }

    private static void coversOfNothing() {
        Check.sentence("2 for how many of its own side", "an empty point has none");
        LoopCaptures x = board(at(10), at(9));
        Check.due("an empty point", x.point(4, 2), 0);
        Check.due("another one", x.point(0, 2), 0);
    }

    private static void capturesOfAPoint() {
        Check.sentence("3 for how many pieces it could capture, if its side was to move (0 for nothing)");
        LoopCaptures x = board(at(8), at(4, 1, 12, 18));
        Check.due("four", x.point(8, 3), 4);
        Check.due("one", x.point(4, 3), 1);
        Check.due("nothing", x.point(9, 3), 0);
        Check.due("a corner", board(at(0), at(1, 6, 7)).point(0, 3), 0);
        // Two ways to one piece.
        Check.due("one by two ways", board(at(6), at(29)).point(6, 3), 1);
        Check.due("one by four ways", board(at(8), at(27)).point(8, 3), 1);
        Check.due("at first", new LoopCaptures().point(6, 3), 0);
    }

    private static void capturesIfItsSideWasToMove() {
        Check.sentence("could capture, if its side was to move");
        LoopCaptures x = board(at(8), at(4, 1, 12, 18));
        for (int turns = 0; turns < 3; turns++) {
            Check.due("of the side 1", x.point(8, 3), 4);
            Check.due("of the side 2", x.point(12, 3), 1);
            Check.due("quiet moves of the side 1", x.point(8, 4), 7);
            Check.due("quiet moves of the side 2", x.point(18, 4), 4);
            x.turn();
        }
    }

    private static void quietMovesOfAPoint() {
        Check.sentence("4 for how many quiet moves it could make (0 for nothing)");
        for (int p = 0; p < 36; p++) {
            int columns = p % 6 == 0 || p % 6 == 5 ? 2 : 3;
            int rows = p / 6 == 0 || p / 6 == 5 ? 2 : 3;
            int far = p < 18 ? 35 : 0;
            int taken = far == 35 && p == 28 || far == 0 && p == 7 ? 1 : 0;
            LoopCaptures x = board(at(p), at(far));
            Check.due("of " + p, x.point(p, 4), columns * rows - 1 - taken);
            Check.due("of nothing", x.point(p == 17 ? 18 : 17, 4), 0);
        }
        LoopCaptures x = board(at(14, 7, 8), at(9, 13, 21));
        Check.due("own and other pieces stand beside", x.point(14, 4), 3);
        Check.due("shut in", shutIn().point(0, 4), 0);
        Check.due("at first, the first row", new LoopCaptures().point(0, 4), 0);
        Check.due("at first, the second row", new LoopCaptures().point(8, 4), 3);
    }

    private static void aPointBehindTheEnd() {
        Check.sentence("could capture it, if they were to move", "as the board allows it, behind the end too");
        LoopCaptures x = drawnWithCaptures();
        Check.due("drawn", x.count(4), 3);
        Check.due("threats", x.point(4, 1), 1);
        Check.due("captures", x.point(10, 3), 2);
        Check.due("quiet moves", x.point(0, 4), 3);
        Check.due("threatened pieces", x.count(11), 1);
        Check.due("quiet moves behind a win", board(at(0), at()).point(0, 4), 3);
    }

    // Promise 17: way

    private static void wayBounds() {
        Check.sentence("`from`: 0 to 35 - `to`: 0 to 35 - `what`: 0 for its loops", "to 4");
        LoopCaptures x = board(at(10), at(4));
        int[] wrong = {-1, 5, Integer.MIN_VALUE, Integer.MAX_VALUE};
        for (int what : wrong) {
            Check.due("way(10, 4, " + what + ")", x.way(10, 4, what), BAD_VALUE);
            Check.due("way(20, 21, " + what + ")", x.way(20, 21, what), BAD_VALUE);
            for (int point : WRONG_POINTS) {
                Check.due("way(" + point + ", 4, " + what + ")", x.way(point, 4, what), UNKNOWN);
                Check.due("way(10, " + point + ", " + what + ")", x.way(10, point, what), UNKNOWN);
            }
        }
        for (int point : WRONG_POINTS) {
            Check.due("way(" + point + ", 4, 0)", x.way(point, 4, 0), UNKNOWN);
            Check.due("way(10, " + point + ", 4)", x.way(10, point, 4), UNKNOWN);
        }
    }

    private static void wayNumbers() {
        Check.sentence("0 for its loops, 1 for how many places it goes on, 2 for its circuit, "
            + "3 for the place from which it goes, 4 for whether it goes forwards (1, otherwise 0)");
        wayIs("one loop, one place", board(at(2), at(12)), 2, 12, 1, 1, 1, 23, 1);
        wayIs("one loop, one place back", board(at(12), at(2)), 12, 2, 1, 1, 1, 0, 0);
        wayIs("two loops", board(at(8), at(9)), 8, 9, 2, 9, 1, 22, 1);
        wayIs("three loops", board(at(1), at(25)), 1, 25, 3, 17, 0, 23, 1);
        wayIs("four loops", board(at(3), at(9)), 3, 9, 4, 23, 1, 6, 0);
    }

    private static void wayWhicheverSide() {
        Check.sentence("Tells the way of a capture, whichever side is to move");
        LoopCaptures x = board(at(10), at(4));
        for (int turns = 0; turns < 2; turns++) {
            wayIs("of the side 1", x, 10, 4, 1, 2, 0, 4, 1);
            wayIs("of the side 2", x, 4, 10, 1, 2, 0, 6, 0);
            x.turn();
        }
    }

    private static void wayBehindTheEnd() {
        Check.sentence("and whether the game is over or not.");
        LoopCaptures x = drawnWithCaptures();
        Check.due("drawn", x.count(4), 3);
        wayIs("of the side 1", x, 10, 4, 1, 2, 0, 4, 1);
        wayIs("of the side 2", x, 4, 10, 1, 2, 0, 6, 0);
    }

    private static void wayIsNone() {
        Check.sentence("NONE if there is no such way, or no pieces of two sides stand there.");
        LoopCaptures x = board(at(10, 11, 0), at(4, 16, 9));
        noWay("behind an own piece", x, 10, 4);
        noWay("without a loop", x, 10, 16);
        noWay("from a corner", x, 0, 4);
        noWay("to a corner", x, 4, 0);
        noWay("two of the side 1", x, 10, 11);
        noWay("two of the side 2", x, 4, 16);
        noWay("from nothing", x, 5, 4);
        noWay("to nothing", x, 10, 5);
        noWay("nothing at all", x, 6, 1);
        noWay("a piece to itself", x, 10, 10);
        noWay("nothing to itself", x, 6, 6);
    }

    // Promises 18 and 19: circuit, reason

    private static void circuitBounds() {
        Check.sentence("`circuit`: 0 or 1 - `place`: 0 to 23");
        LoopCaptures x = new LoopCaptures();
        int[] circuits = {-1, 2, Integer.MIN_VALUE, Integer.MAX_VALUE};
        int[] places = {-1, 24, -24, 48, Integer.MIN_VALUE, Integer.MAX_VALUE};
        for (int circuit : circuits) {
            Check.due("circuit(" + circuit + ", 0)", x.circuit(circuit, 0), UNKNOWN);
            Check.due("circuit(" + circuit + ", 23)", x.circuit(circuit, 23), UNKNOWN);
        }
        for (int place : places) {
            Check.due("circuit(0, " + place + ")", x.circuit(0, place), UNKNOWN);
            Check.due("circuit(1, " + place + ")", x.circuit(1, place), UNKNOWN);
        }
        Check.due("circuit(0, 0)", x.circuit(0, 0), 6);
        Check.due("circuit(0, 23)", x.circuit(0, 23), 1);
        Check.due("circuit(1, 0)", x.circuit(1, 0), 12);
        Check.due("circuit(1, 23)", x.circuit(1, 23), 2);
    }

    private static void reasonBounds() {
        Check.sentence("`from`: 0 to 35 - `to`: 0 to 35 - `capture`: whether it is a capture");
        LoopCaptures x = new LoopCaptures();
        for (int point : WRONG_POINTS) {
            Check.due("reason(" + point + ", 12, false)", x.reason(point, 12, false), UNKNOWN);
            Check.due("reason(6, " + point + ", false)", x.reason(6, point, false), UNKNOWN);
            Check.due("reason(" + point + ", 12, true)", x.reason(point, 12, true), UNKNOWN);
            Check.due("reason(6, " + point + ", true)", x.reason(6, point, true), UNKNOWN);
        }
        Check.due("reason(0, 35, true)", x.reason(0, 35, true), 4);
        Check.due("reason(35, 0, true)", x.reason(35, 0, true), 2);
    }

    private static void reasonWhetherACapture() {
        Check.sentence("Returns the reason; 0 if it is possible; UNKNOWN.");
        LoopCaptures x = board(at(10), at(4, 16));
        Check.due("a capture", x.reason(10, 4, true), 0);
        Check.due("which is no quiet move", x.reason(10, 4, false), 4);
        Check.due("a quiet move", x.reason(10, 11, false), 0);
        Check.due("which is no capture", x.reason(10, 11, true), 4);
        Check.due("nothing is made", x.count(7), 0);
        x.turn();
        Check.due("the other side is to move", x.reason(10, 4, true), 2);
        Check.due("its capture", x.reason(4, 10, true), 0);
    }

    // Promise 20: possible

    private static void possibleBounds() {
        Check.sentence("`rank`: a rank, from 0");
        LoopCaptures x = new LoopCaptures();
        Check.due("the first", x.possible(0), 612);
        Check.due("the last", x.possible(15), 1117);
        int[] negative = {-1, -2, Integer.MIN_VALUE};
        for (int rank : negative) {
            Check.due("possible(" + rank + ")", x.possible(rank), BAD_VALUE);
        }
        int[] great = {16, 17, 255, 256, 363, 364, 365, 1000, Integer.MAX_VALUE};
        for (int rank : great) {
            Check.due("possible(" + rank + ")", x.possible(rank), NONE);
        }
    }

    private static void possibleReturns() {
        Check.sentence("Returns 100 times the point from which it goes, and the one to which; "
            + "BAD_VALUE if rank is negative; NONE if there are not so many.");
        LoopCaptures x = board(at(0), at(34));
        int[] want = {1, 6, 7, NONE};
        for (int rank = 0; rank < want.length; rank++) {
            Check.due("possible(" + rank + ")", x.possible(rank), want[rank]);
        }
        x.turn();
        int[] wantOfTwo = {3427, 3428, 3429, 3433, 3435, NONE};
        for (int rank = 0; rank < wantOfTwo.length; rank++) {
            Check.due("of the side 2: possible(" + rank + ")", x.possible(rank), wantOfTwo[rank]);
        }
        Check.due("behind the end", drawn().possible(0), NONE);
        Check.due("of a side that is shut in", shutIn().possible(0), NONE);
        Check.due("of a side that is shut in, negative", shutIn().possible(-1), BAD_VALUE);
    }

    // Promises 21 and 22: look, best

    private static void lookBounds() {
        Check.sentence("`depth`: 0 to 2");
        LoopCaptures x = board(at(10), at(4, 30));
        for (int depth : WRONG_DEPTHS) {
            Check.due("look(" + depth + ")", x.look(depth), BAD_VALUE);
        }
        Check.due("look(0)", x.look(0), -1);
        Check.due("look(1)", x.look(1), 0);
        Check.due("look(2)", x.look(2), 0);
        Check.due("look(3) behind the end", drawn().look(3), BAD_VALUE);
    }

    private static void bestBounds() {
        Check.sentence("`depth`: 1 or 2", "best");
        LoopCaptures x = new LoopCaptures();
        for (int depth : WRONG_DEPTHS) {
            Check.due("best(" + depth + ")", x.best(depth), BAD_VALUE);
        }
        Check.due("best(0)", x.best(0), BAD_VALUE);
        Check.due("best(1)", x.best(1), 612);
        Check.due("best(2)", x.best(2), 612);
    }

    private static void bestReturns() {
        Check.sentence("Returns 100 times the point from which it goes, and the one to which; "
            + "BAD_VALUE; NONE if no move is possible.");
        Check.due("a capture", board(at(10), at(4, 24)).best(1), 1004);
        Check.due("from the point 0", board(at(0), at(35)).best(2), 1);
        Check.due("to the point 0", board(at(1), at(35)).best(1), 100);
        Check.due("the worst is better than none", board(at(0), at(6, 35)).best(2), 1);
        Check.due("behind the end", drawn().best(1), NONE);
        Check.due("with no piece", board(at(), at()).best(2), NONE);
        Check.due("shut in", shutIn().best(1), NONE);
        Check.due("shut in, of the depth 2", shutIn().best(2), NONE);
    }

    private static void ofSeveralTheFirst() {
        Check.sentence("Finds the move by which the look ahead is the greatest, of several the first one.");
        LoopCaptures x = board(at(8), at(18, 12, 4, 1));
        Check.due("of four captures", x.best(1), 801);
        LoopCaptures y = board(at(17), at(7));
        Check.due("of quiet moves", y.best(1), 1710);
        Check.due("a later one that is better", y.best(2), 1723);
    }

    // Promise 23: count

    private static void countBounds() {
        Check.sentence("`what`: 0 for the side that is to move", "to 13");
        LoopCaptures x = new LoopCaptures();
        int[] wrong = {-1, 14, 15, Integer.MIN_VALUE, Integer.MAX_VALUE};
        for (int what : wrong) {
            Check.due("count(" + what + ")", x.count(what), BAD_VALUE);
        }
        counts("at first", x, 1, 12, 12, 0, 0, 0, 16, 0, 0, 1, 20, 0, 0, 0);
    }

    private static void countSidesAndPieces() {
        Check.sentence("0 for the side that is to move, 1 and 2 for the pieces of the sides 1 and 2");
        LoopCaptures x = board(at(10, 0), at(4, 24, 30));
        counts("a board", x, 1, 2, 3);
        x.capture(10, 4);
        counts("behind a capture", x, 2, 2, 2);
        x.move(24, 18);
        counts("behind a quiet move", x, 1, 2, 2);
        x.setUp(18, 1);
        counts("behind setUp() in place of another", x, 1, 3, 1);
        x.setUp(18, 0);
        counts("behind setUp() of nothing", x, 1, 2, 1);
    }

    private static void countQuietMoves() {
        Check.sentence("3 for quiet moves behind the latest capture");
        LoopCaptures x = board(at(10, 0), at(4, 24, 30));
        performText(x, "a1-a2;a5-b5;a2-a1;b5-a5");
        Check.due("ahead of it", x.count(3), 4);
        x.capture(10, 4);
        Check.due("behind it", x.count(3), 0);
        x.move(24, 25);
        Check.due("one more", x.count(3), 1);
    }

    private static void countResults() {
        Check.sentence("4 for the result (0 it goes on, 1 or 2 that side has won, 3 drawn)");
        Check.due("it goes on", new LoopCaptures().count(4), 0);
        Check.due("the side 1 has won", board(at(0), at()).count(4), 1);
        Check.due("the side 2 has won", board(at(), at(0)).count(4), 2);
        Check.due("drawn with no piece", board(at(), at()).count(4), 3);
        Check.due("drawn by quiet moves", drawn().count(4), 3);
        Check.due("a side that is shut in", shutIn().count(4), 0);
    }

    private static void countPossibleMoves() {
        Check.sentence("5 for captures that are possible, 6 for quiet moves that are possible");
        LoopCaptures x = board(at(8), at(4, 1, 12, 18));
        Check.due("captures", x.count(5), 4);
        Check.due("quiet moves", x.count(6), 7);
        x.turn();
        Check.due("captures of the side 2", x.count(5), 4);
        Check.due("quiet moves of the side 2", x.count(6), 5 + 4 + 4 + 4);
        Check.due("one capture by two ways", board(at(6), at(29)).count(5), 1);
        Check.due("captures behind the end", board(at(10, 4), at()).count(5), 0);
        Check.due("quiet moves behind the end", drawn().count(6), 0);
        Check.due("shut in", shutIn().count(6), 0);
        LoopCaptures y = board(at(10), at(4, 30));
        Check.due("a capture", y.count(5), 1);
        y.capture(10, 4);
        y.turn();
        y.setUp(4, 0);
        y.setUp(0, 1);
        Check.due("captures that are no more", y.count(5), 0);
        Check.due("quiet moves behind them", y.count(6), 3);
    }

    private static void countVeryManyMoves() {
        Check.sentence("6 for quiet moves that are possible", "very many");
        LoopCaptures x = new LoopCaptures();
        for (int p = 0; p < 36; p++) {
            x.setUp(p, p / 6 % 2 == 0 ? 1 : 0);
        }
        x.setUp(35, 2);
        // Three rows of six, each beside one or two rows that are empty but for f6.
        Check.due("quiet moves", x.count(6), 78);
        Check.due("the last one", x.possible(77), 2934);
        Check.due("no more", x.possible(78), NONE);
        Check.due("best(1)", x.best(1), 6);
    }

    private static void countMovesMade() {
        Check.sentence("7 for moves made since the beginning, 8 for captures made since then");
        LoopCaptures x = board(at(10, 0), at(4, 24, 30));
        Check.due("setUp() is no move", x.count(7), 0);
        x.capture(10, 4);
        Check.due("a capture is a move", x.count(7), 1);
        Check.due("a capture", x.count(8), 1);
        performText(x, "a5-b5;a1-a2");
        Check.due("moves of a text", x.count(7), 3);
        x.play(1);
        Check.due("a move of play()", x.count(7), 4);
        Check.due("which was a capture, of a2 by b5", x.count(8), 2);
        x.turn();
        x.setUp(35, 2);
        x.setLimit(5);
        Check.due("moves stay", x.count(7), 4);
        Check.due("captures stay", x.count(8), 2);
        x.begin();
        Check.due("moves behind begin()", x.count(7), 0);
        Check.due("captures behind begin()", x.count(8), 0);
        x.undo();
        Check.due("moves behind undo()", x.count(7), 4);
    }

    private static void countPositionsAndSetting() {
        Check.sentence("9 for how often the position of now was there, 10 for the setting 0");
        LoopCaptures x = new LoopCaptures();
        Check.due("at first", x.count(9), 1);
        performText(x, TO_AND_FRO);
        Check.due("there again", x.count(9), 2);
        x.perform();
        Check.due("and again", x.count(9), 3);
        Check.due("the setting at first", x.count(10), 20);
        x.setLimit(60);
        Check.due("the greatest setting", x.count(10), 60);
        x.setLimit(4);
        Check.due("the least setting", x.count(10), 4);
        Check.due("there behind the end too", x.count(9), 3);
    }

    private static void countThreatened() {
        Check.sentence("11 for pieces of the side to move that are threatened");
        LoopCaptures x = board(at(8, 35), at(4, 1, 12, 18));
        Check.due("one by four", x.count(11), 1);
        x.turn();
        Check.due("four by one", x.count(11), 4);
        x.setUp(11, 1);
        Check.due("one of them is so by another piece", x.count(11), 4);
        Check.due("at the last points of the board", board(at(34, 31, 0), at(29, 24)).count(11), 2);
        Check.due("none at first", new LoopCaptures().count(11), 0);
        Check.due("none of no piece", board(at(), at()).count(11), 0);
    }

    private static void countStatesAndText() {
        Check.sentence("12 for the states in the history, 13 for the length of the text");
        LoopCaptures x = new LoopCaptures();
        for (int i = 1; i <= 6; i++) {
            x.turn();
            x.type('a');
            Check.due("states", x.count(12), Math.min(i, 4));
            Check.due("length", x.count(13), i);
        }
        x.undo();
        Check.due("states behind undo()", x.count(12), 3);
        Check.due("length behind undo()", x.count(13), 6);
        x.clearText();
        Check.due("length behind clearText()", x.count(13), 0);
        typeAll(x, "a".repeat(81));
        Check.due("the greatest length", x.count(13), 80);
    }

    private static void countsThatAddUp() {
        Check.sentence("counts that add up");
        int[][] ones = {{8}, {10, 7, 16}, {14, 21, 33, 0}, {6, 7, 8, 9}};
        int[][] twos = {{4, 1, 12, 18}, {4, 9, 28}, {12, 17, 2, 20}, {29, 28, 27, 26, 35}};
        for (int i = 0; i < ones.length; i++) {
            LoopCaptures x = board(ones[i], twos[i]);
            int captures = 0;
            int quiet = 0;
            int threats = 0;
            for (int p = 0; p < 36; p++) {
                boolean own = x.point(p, 0) == 1;
                captures += own ? x.point(p, 3) : 0;
                quiet += own ? x.point(p, 4) : 0;
                threats += own ? 0 : x.point(p, 1);
            }
            Check.due("captures", x.count(5), captures);
            Check.due("threats", x.count(5), threats);
            Check.due("quiet moves", x.count(6), quiet);
            Check.due("moves in their order", x.possible(captures + quiet), NONE);
        }
    }
}
