import java.util.function.IntUnaryOperator;

/** The bounds of the arguments and the "Returns" lines of the promises 2 to 23; a test for each. */
public final class EdgeTests extends Games {
    private static final int[] DEEP = {Integer.MIN_VALUE, -1, 3, 4, Integer.MAX_VALUE};

    private EdgeTests() {
    }

    public static void main(String[] args) {
        theConstants();
        aNewObject();
        moveBounds();
        moveReturns();
        captureBounds();
        captureReturns();
        noMoveMinusTheReason();
        playBounds();
        playReturns();
        playAsBestTells();
        setUpBounds();
        setUpReturns();
        setUpCountsAnew();
        turnReturns();
        turnCountsAnew();
        beginReturns();
        settingsStay();
        setLimitBounds();
        setLimitReturns();
        typeAnyCharacter();
        typeReturns();
        behindTheText();
        clearTextReturns();
        performReturns();
        theTextStays();
        allOfThemOrNone();
        oneAct();
        stoppedBounds();
        stoppedNumber();
        stoppedReasons();
        noneStoppedYet();
        undoReturns();
        undoRestores();
        keepReturns();
        inPlaceOfTheOne();
        restoreReturns();
        theSnapshotStays();
        Check.finish("EdgeTests");
    }

    /** Each of these arguments gives this answer. */
    private static void all(String name, int[] arguments, IntUnaryOperator call, int want) {
        for (int argument : arguments) {
            Check.due(name + " " + argument, call.applyAsInt(argument), want);
        }
    }

    // Promise 1, and the constants

    private static void theConstants() {
        Check.sentence("`UNKNOWN = -101`");
        Check.due("UNKNOWN", LoopCaptures.UNKNOWN, -101);
        Check.sentence("`BAD_VALUE = -102`");
        Check.due("BAD_VALUE", LoopCaptures.BAD_VALUE, -102);
        Check.sentence("`FULL = -103`");
        Check.due("FULL", LoopCaptures.FULL, -103);
        Check.sentence("`NOT_POSSIBLE = -104`");
        Check.due("NOT_POSSIBLE", LoopCaptures.NOT_POSSIBLE, -104);
        Check.sentence("`NONE = -105`");
        Check.due("NONE", LoopCaptures.NONE, -105);
        Check.sentence("`NO_MOVE = -110`");
        Check.due("NO_MOVE", LoopCaptures.NO_MOVE, -110);
    }

    private static void aNewObject() {
        Check.sentence("Creates a game at its beginning.");
        LoopCaptures x = new LoopCaptures();
        x.move(6, 12);
        x.type('a');
        x.keep();
        // One object knows nothing of another one.
        LoopCaptures y = new LoopCaptures();
        counts("new", y, 1, 12, 12, 0, 0, 0, 16, 0, 0, 1, 20, 0, 0, 0);
        Check.due("no stop", y.stopped(0), NONE);
        Check.due("no history", y.undo(), NONE);
        Check.due("no snapshot", y.restore(), NONE);
        Check.due("no text", y.clearText(), 0);
        Check.due("the other one has made a move", x.count(7), 1);
    }

    // Promises 2 and 3: move, capture

    private static void moveBounds() {
        Check.sentence("`from`: 0 to 35 - `to`: 0 to 35", "move");
        LoopCaptures x = board(at(0, 34), at(1, 28));
        all("move from", WRONG_POINTS, p -> x.move(p, 7), UNKNOWN);
        all("move to", WRONG_POINTS, p -> x.move(0, p), UNKNOWN);
        all("move from and to", WRONG_POINTS, p -> x.move(p, p), UNKNOWN);
        Check.due("from 0", x.move(0, 6), 1);
        x.turn();
        Check.due("to 35", x.move(34, 35), 1);
        x.turn();
        Check.due("from 35", x.move(35, 29), 1);
        x.turn();
        Check.due("to 0", x.move(6, 0), 1);
    }

    private static void moveReturns() {
        Check.sentence("Returns how many quiet moves there were behind the latest capture then");
        LoopCaptures x = board(at(10, 0), at(4, 24));
        Check.due("the first", x.move(0, 1), 1);
        Check.due("the second", x.move(24, 25), 2);
        Check.due("the third", x.move(1, 0), 3);
        x.move(25, 24);
        x.capture(10, 4);
        Check.due("the first behind a capture", x.move(24, 25), 1);
        Check.due("the second behind it", x.move(0, 1), 2);
        x.undo();
        Check.due("the second behind undo()", x.move(0, 7), 2);
        x.setUp(35, 2);
        Check.due("the first behind setUp()", x.move(25, 24), 1);
        x.turn();
        Check.due("the first behind turn()", x.move(24, 25), 1);
        x.begin();
        Check.due("the first behind begin()", x.move(6, 12), 1);
        x.setLimit(4);
        Check.due("setLimit() counts nothing anew", x.move(24, 18), 2);
        Check.due("the third of four", x.move(12, 6), 3);
        Check.due("the last one", x.move(18, 24), 4);
        Check.due("behind it", x.move(6, 12), -111);
    }

    private static void captureBounds() {
        Check.sentence("`from`: 0 to 35 - `to`: 0 to 35", "capture");
        LoopCaptures x = board(at(10), at(4, 35));
        all("capture from", WRONG_POINTS, p -> x.capture(p, 4), UNKNOWN);
        all("capture to", WRONG_POINTS, p -> x.capture(10, p), UNKNOWN);
        Check.due("of the point 35", x.capture(10, 35), -114);
        Check.due("of the point 0", x.capture(10, 0), -114);
        x.turn();
        Check.due("from the point 35", x.capture(35, 10), -114);
        // The greatest and the least points of the circuits.
        Check.due("from 1 to 34", board(at(1), at(34)).capture(1, 34), 0);
        Check.due("from 34 to 1", board(at(34), at(1)).capture(34, 1), 0);
    }

    private static void captureReturns() {
        Check.sentence("Returns how many pieces the other side has then");
        LoopCaptures x = board(at(8), at(4, 1, 12, 18));
        Check.due("three are left", x.capture(8, 4), 3);
        x.undo();
        x.setUp(1, 0);
        x.setUp(12, 0);
        Check.due("one is left", x.capture(8, 18), 1);
        x.undo();
        x.setUp(18, 0);
        Check.due("none is left", x.capture(8, 4), 0);
        Check.due("none more", x.capture(4, 8), -111);
        // The own pieces are not told.
        LoopCaptures y = board(at(4, 35), at(10, 0, 1, 2, 3));
        y.turn();
        Check.due("one of the side 1 is left", y.capture(10, 4), 1);
    }

    private static void noMoveMinusTheReason() {
        Check.sentence("NO_MOVE minus the reason.");
        LoopCaptures x = board(at(10, 9), at(4, 16));
        int[][] points = {{11, 5}, {10, 9}, {10, 16}};
        for (int i = 0; i < points.length; i++) {
            int from = points[i][0];
            int to = points[i][1];
            Check.due("move", x.move(from, to), LoopCaptures.NO_MOVE - 2 - i);
            Check.due("reason of a move", x.reason(from, to, false), 2 + i);
            Check.due("capture", x.capture(from, to), LoopCaptures.NO_MOVE - 2 - i);
            Check.due("reason of a capture", x.reason(from, to, true), 2 + i);
        }
        Check.due("move behind the end", drawn().move(6, 12), LoopCaptures.NO_MOVE - 1);
        Check.due("capture behind the end", drawn().capture(6, 12), LoopCaptures.NO_MOVE - 1);
    }

    // Promise 4: play

    private static void playBounds() {
        Check.sentence("`depth`: 1 or 2", "play");
        LoopCaptures x = new LoopCaptures();
        all("play", DEEP, x::play, BAD_VALUE);
        Check.due("play(0)", x.play(0), BAD_VALUE);
        Check.due("play(1)", x.play(1), 612);
        Check.due("play(2)", x.play(2) >= 2400 ? 1 : 0, 1);
    }

    private static void playReturns() {
        Check.sentence("Returns 100 times the point from which it goes, and the one to which; BAD_VALUE; "
            + "NOT_POSSIBLE if there is none.");
        LoopCaptures x = board(at(17), at(7));
        Check.due("play(1)", x.play(1), 1710);
        Check.due("gone", x.point(17, 0), 0);
        Check.due("come", x.point(10, 0), 1);
        Check.due("the point 0 is told as nothing", board(at(0), at(35)).play(1), 1);
        Check.due("to the point 0", board(at(1), at(35)).play(1), 100);
        LoopCaptures y = board(at(17), at(7));
        Check.due("play(2)", y.play(2), 1723);
        Check.due("none behind the end", drawn().play(2), NOT_POSSIBLE);
        Check.due("none of a side that is shut in", shutIn().play(1), NOT_POSSIBLE);
    }

    private static void playAsBestTells() {
        Check.sentence("Makes the best move by a look ahead, as best() tells it.");
        for (int depth = 1; depth <= 2; depth++) {
            LoopCaptures x = board(at(17, 9, 12), at(7, 4, 29));
            for (int moves = 0; moves < 12; moves++) {
                int best = x.best(depth);
                int other = x.count(0) == 1 ? x.count(2) : x.count(1);
                boolean capture = best >= 0 && x.point(best % 100, 0) != 0;
                Check.due("play(" + depth + ")", x.play(depth), best == NONE ? NOT_POSSIBLE : best);
                int left = x.count(0) == 1 ? x.count(1) : x.count(2);
                Check.due("the pieces that are left", left, best == NONE ? left : other - (capture ? 1 : 0));
            }
        }
    }

    // Promises 5 to 8: boards, settings

    private static void setUpBounds() {
        Check.sentence("`point`: 0 to 35 - `side`: 0 for nothing, 1 or 2");
        LoopCaptures x = new LoopCaptures();
        all("setUp of", WRONG_POINTS, p -> x.setUp(p, 1), UNKNOWN);
        all("setUp of no side at", WRONG_POINTS, p -> x.setUp(p, p), UNKNOWN);
        int[] sides = {-1, 3, Integer.MIN_VALUE, Integer.MAX_VALUE};
        all("setUp of the side", sides, side -> x.setUp(35, side), BAD_VALUE);
        Check.due("the first point", x.setUp(0, 2), 1);
        Check.due("the last point", x.setUp(35, 1), 2);
        Check.due("nothing", x.setUp(35, 0), 1);
        Check.due("a piece of the side 1", x.setUp(35, 1), 0);
        Check.due("a piece of the side 2", x.setUp(35, 2), 1);
    }

    private static void setUpReturns() {
        Check.sentence("Returns what stood there; UNKNOWN; BAD_VALUE; NONE if it is so already.");
        LoopCaptures x = new LoopCaptures();
        for (int is = 0; is <= 2; is++) {
            for (int side = 0; side <= 2; side++) {
                x.setUp(17, is);
                Check.due(is + " to " + side, x.setUp(17, side), is == side ? NONE : is);
                Check.due("it stands", x.point(17, 0), side);
            }
        }
        // Boards that are full and that are empty.
        for (int p = 0; p < 36; p++) {
            x.setUp(p, 1);
        }
        Check.due("full", x.count(1), 36);
        Check.due("none is possible", x.count(6), 0);
        for (int p = 0; p < 36; p++) {
            x.setUp(p, 0);
        }
        Check.due("empty", x.count(1) + x.count(2), 0);
    }

    private static void setUpCountsAnew() {
        Check.sentence("Sets what stands at a point; quiet moves are counted anew, "
            + "and positions that were are forgotten.");
        LoopCaptures x = drawn();
        Check.due("drawn", x.count(4), 3);
        x.setUp(0, 0);
        counts("behind setUp()", x, 1, 11, 12, 0, 0);
        Check.due("moves stay", x.count(7), 4);
        Check.due("positions", x.count(9), 1);
        x.setUp(0, 1);
        Check.due("positions, the board as it was", x.count(9), 1);
    }

    private static void turnReturns() {
        Check.sentence("Returns the side that is to move then.");
        LoopCaptures x = new LoopCaptures();
        Check.due("turn()", x.turn(), 2);
        Check.due("to move", x.count(0), 2);
        Check.due("its moves", x.possible(0) / 100, 24);
        Check.due("turn() again", x.turn(), 1);
        x.move(6, 12);
        Check.due("turn() behind a move", x.turn(), 1);
        Check.due("turn() behind the end", board(at(), at()).turn(), 2);
    }

    private static void turnCountsAnew() {
        Check.sentence("Lets the other side be to move; quiet moves are counted anew, "
            + "and positions that were are forgotten.");
        LoopCaptures x = drawn();
        x.turn();
        counts("behind turn()", x, 2, 12, 12, 0, 0);
        Check.due("moves stay", x.count(7), 4);
        Check.due("positions", x.count(9), 1);
        x.turn();
        Check.due("positions, the side as it was", x.count(9), 1);
        LoopCaptures y = new LoopCaptures();
        y.move(6, 12);
        y.turn();
        y.turn();
        Check.due("positions, behind one move", y.count(9), 1);
    }

    private static void beginReturns() {
        Check.sentence("Returns how many pieces were left on the board.");
        Check.due("at first", new LoopCaptures().begin(), 24);
        Check.due("none", board(at(), at()).begin(), 0);
        Check.due("one", board(at(), at(35)).begin(), 1);
        Check.due("of both sides", board(at(0, 1), at(35)).begin(), 3);
        LoopCaptures x = new LoopCaptures();
        for (int p = 12; p < 24; p++) {
            x.setUp(p, 1 + p % 2);
        }
        Check.due("all", x.begin(), 36);
        Check.due("those of the beginning", x.begin(), 24);
    }

    private static void settingsStay() {
        Check.sentence("Begins the game anew. Settings stay.");
        LoopCaptures x = board(at(10), at(4, 24));
        x.setLimit(60);
        x.capture(10, 4);
        x.begin();
        counts("anew", x, 1, 12, 12, 0, 0, 0, 16, 0, 0, 1, 60, 0, 4, 0);
        for (int p = 0; p < 36; p++) {
            Check.due("anew: point " + p, x.point(p, 0), p <= 11 ? 1 : p >= 24 ? 2 : 0);
        }
    }

    private static void setLimitBounds() {
        Check.sentence("`moves`: 4 to 60");
        LoopCaptures x = new LoopCaptures();
        int[] wrong = {3, 61, 0, -1, -4, -60, Integer.MIN_VALUE, Integer.MAX_VALUE};
        all("setLimit", wrong, x::setLimit, BAD_VALUE);
        int previous = 20;
        for (int moves = 60; moves >= 4; moves--) {
            Check.due("setLimit(" + moves + ")", x.setLimit(moves), moves == previous ? NONE : previous);
            previous = moves;
        }
    }

    private static void setLimitReturns() {
        Check.sentence("Returns the previous one; BAD_VALUE; NONE if it is so already.");
        LoopCaptures x = new LoopCaptures();
        Check.due("as at first", x.setLimit(20), NONE);
        Check.due("another one", x.setLimit(21), 20);
        Check.due("the same", x.setLimit(21), NONE);
        Check.due("back", x.setLimit(20), 21);
        x.undo();
        Check.due("behind undo()", x.setLimit(30), 21);
        x.begin();
        Check.due("behind begin()", x.setLimit(30), NONE);
    }

    // Promises 9 to 12: texts

    private static void typeAnyCharacter() {
        Check.sentence("`character`: any character");
        for (int first = 0; first < 65536; first += 4099) {
            LoopCaptures x = new LoopCaptures();
            Check.due("type " + first, x.type((char) first), 1);
        }
        LoopCaptures x = new LoopCaptures();
        Check.due("the least", x.type('\u0000'), 1);
        Check.due("the greatest", x.type('\uffff'), 2);
    }

    private static void typeReturns() {
        Check.sentence("Returns the length of the text then; FULL if it has 80 characters.");
        LoopCaptures x = new LoopCaptures();
        for (int length = 1; length <= 80; length++) {
            Check.due("type", x.type('a'), length);
            Check.due("its length", x.count(13), length);
        }
        Check.due("type", x.type('a'), FULL);
        Check.due("type another", x.type(';'), FULL);
        Check.due("its length", x.count(13), 80);
    }

    private static void behindTheText() {
        Check.sentence("Types a character behind the text.");
        LoopCaptures x = new LoopCaptures();
        String text = "b2-c3";
        for (int i = 0; i < text.length(); i++) {
            Check.due("not whole yet", x.perform(), -200 - i);
            x.type(text.charAt(i));
        }
        Check.due("whole", x.perform(), 1);
        Check.due("from b2", x.point(7, 0), 0);
        Check.due("to c3", x.point(14, 0), 1);
        x.type(';');
        Check.due("one more", x.perform(), -206);
    }

    private static void clearTextReturns() {
        Check.sentence("Returns the length that it had.");
        for (int length = 0; length <= 82; length++) {
            LoopCaptures x = new LoopCaptures();
            typeAll(x, "a".repeat(length));
            Check.due("clearText() of " + length, x.clearText(), Math.min(length, 80));
            Check.due("clearText() again", x.clearText(), 0);
            Check.due("nothing is left", x.perform(), -200);
        }
    }

    private static void performReturns() {
        Check.sentence("Returns how many moves there are; -200 minus the fault of the text if it has one "
            + "(which is an error); NOT_POSSIBLE if any is stopped.");
        Check.due("one", performText(new LoopCaptures(), "a2-a3"), 1);
        Check.due("four", performText(new LoopCaptures(), TO_AND_FRO), 4);
        Check.due("thirteen", performText(new LoopCaptures(),
            TO_AND_FRO + ";" + TO_AND_FRO + ";" + TO_AND_FRO + ";a2-a3"), 13);
        Check.due("the fault 0", performText(new LoopCaptures(), "h2-a3"), -200);
        Check.due("the fault 4", performText(new LoopCaptures(), "a2-a"), -204);
        Check.due("the first is stopped", performText(new LoopCaptures(), "a3-a2"), NOT_POSSIBLE);
        Check.due("the last is stopped", performText(new LoopCaptures(), "a2-a3;a5-a4;a3-a4"), NOT_POSSIBLE);
    }

    private static void theTextStays() {
        Check.sentence("Makes the moves of the text, which stays, one after the other");
        LoopCaptures x = new LoopCaptures();
        Check.due("once", performText(x, TO_AND_FRO), 4);
        Check.due("its length", x.count(13), 23);
        Check.due("again", x.perform(), 4);
        Check.due("as it is", x.clearText(), 23);
        performText(x, "a2-a3;a2-a3");
        Check.due("a text that is stopped stays", x.count(13), 11);
        performText(x, "a2-?");
        Check.due("a text with a fault stays", x.count(13), 4);
        // The second move is possible only behind the first one.
        LoopCaptures y = board(at(10, 11), at(4, 24));
        Check.due("one after the other", performText(y, "f2-f3;a5-a4;e2xe1"), 3);
        Check.due("captured", y.count(2), 1);
    }

    private static void allOfThemOrNone() {
        Check.sentence("all of them, or none.");
        LoopCaptures x = board(at(10), at(4, 24));
        Check.due("stopped behind a capture", performText(x, "e2xe1;a5-b5;e1-e1"), NOT_POSSIBLE);
        counts("none", x, 1, 1, 2, 0, 0);
        Check.due("no moves", x.count(7), 0);
        Check.due("no captures", x.count(8), 0);
        Check.due("e2", x.point(10, 0), 1);
        Check.due("e1", x.point(4, 0), 2);
        Check.due("a5", x.point(24, 0), 2);
        Check.due("the first is not possible", performText(x, "e2xf2;e2xe1"), NOT_POSSIBLE);
        Check.due("none at all", x.count(7), 0);
    }

    private static void oneAct() {
        Check.sentence("This is one act. One that is not possible stops it.");
        LoopCaptures x = new LoopCaptures();
        performText(x, TO_AND_FRO);
        Check.due("one state", x.count(12), 1);
        Check.due("undone at once", x.undo(), 0);
        Check.due("no moves", x.count(7), 0);
        x.setLimit(4);
        Check.due("the end stops it", performText(x, TO_AND_FRO + ";a2-a3"), NOT_POSSIBLE);
        Check.due("at the move", x.stopped(0), 4);
        Check.due("as the game is over", x.stopped(1), 1);
        Check.due("no state of it", x.count(12), 1);
    }

    private static void stoppedBounds() {
        Check.sentence("`what`: 0 for the number of the move in its text, from 0, 1 for its reason");
        LoopCaptures x = new LoopCaptures();
        int[] wrong = {-1, 2, Integer.MIN_VALUE, Integer.MAX_VALUE};
        all("stopped, none yet", wrong, x::stopped, BAD_VALUE);
        performText(x, "a2-a3;a2-a3");
        all("stopped", wrong, x::stopped, BAD_VALUE);
        Check.due("its number", x.stopped(0), 1);
        Check.due("its reason", x.stopped(1), 2);
    }

    private static void stoppedNumber() {
        Check.sentence("0 for the number of the move in its text, from 0");
        String moves = TO_AND_FRO + ";" + TO_AND_FRO + ";" + TO_AND_FRO + ";";
        for (int number = 0; number <= 12; number++) {
            LoopCaptures x = new LoopCaptures();
            String text = moves.substring(0, 6 * number) + "c3-c4;a1-b2;a1-b2";
            Check.due("stopped", performText(x, text.substring(0, Math.min(text.length(), 77))), NOT_POSSIBLE);
            Check.due("its number", x.stopped(0), number);
            Check.due("its reason", x.stopped(1), 2);
        }
    }

    private static void stoppedReasons() {
        Check.sentence("1 for its reason");
        String[] texts = {"a2-a3", "a3-a4", "a1-b1", "a1-a3", "a2xa5"};
        int[] reasons = {1, 2, 3, 4, 4};
        for (int i = 0; i < texts.length; i++) {
            LoopCaptures x = i == 0 ? drawn() : new LoopCaptures();
            Check.due("stopped", performText(x, texts[i]), NOT_POSSIBLE);
            Check.due("its number", x.stopped(0), 0);
            Check.due("its reason", x.stopped(1), reasons[i]);
        }
    }

    private static void noneStoppedYet() {
        Check.sentence("NONE if none was stopped yet.");
        LoopCaptures x = new LoopCaptures();
        Check.due("at first", x.stopped(0), NONE);
        performText(x, "a2-a9");
        performText(x, "a2-a3");
        x.move(6, 12);
        Check.due("number behind a fault, a performance, a move", x.stopped(0), NONE);
        Check.due("reason behind a fault, a performance, a move", x.stopped(1), NONE);
        performText(x, "a5-a4;b5-b4");
        Check.due("the stop", x.stopped(0), 1);
        performText(x, "b5-a5");
        Check.due("the latest stop", x.stopped(0), 0);
        Check.due("its reason", x.stopped(1), 3);
        performText(x, "a5-a4");
        performText(x, "a5-a9");
        x.clearText();
        Check.due("it stays", x.stopped(1), 3);
    }

    // Promises 13 to 15: history

    private static void undoReturns() {
        Check.sentence("Returns the number of states that are left; NONE if the history is empty.");
        for (int acts = 0; acts <= 6; acts++) {
            LoopCaptures x = new LoopCaptures();
            for (int i = 0; i < acts; i++) {
                x.turn();
            }
            for (int left = Math.min(acts, 4) - 1; left >= 0; left--) {
                Check.due("undo() of " + acts, x.undo(), left);
                Check.due("states", x.count(12), left);
            }
            Check.due("undo() of an empty history", x.undo(), NONE);
            Check.due("no states", x.count(12), 0);
        }
    }

    private static void undoRestores() {
        Check.sentence("Removes and restores the latest state of the history.");
        LoopCaptures x = board(at(10, 0), at(4, 24));
        x.setLimit(8);
        performText(x, "a1-a2;a5-a4;a2-a1;a4-a5");
        x.capture(10, 4);
        counts("ahead of it", x, 2, 2, 1, 0, 0);
        Check.due("undo()", x.undo(), 3);
        counts("restored", x, 1, 2, 2, 4, 0, 2, x.count(6), 4, 0, 2, 8);
        Check.due("e2", x.point(10, 0), 1);
        Check.due("e1", x.point(4, 0), 2);
        Check.due("undo() of the text", x.undo(), 2);
        counts("restored too", x, 1, 2, 2, 0, 0, 2, x.count(6), 0, 0, 1, 8);
        Check.due("undo() of the setting", x.undo(), 1);
        Check.due("the setting", x.count(10), 20);
    }

    private static void keepReturns() {
        Check.sentence("Returns how many pieces are on the board.");
        Check.due("at first", new LoopCaptures().keep(), 24);
        Check.due("none", board(at(), at()).keep(), 0);
        Check.due("of both sides", board(at(0), at(35, 34)).keep(), 3);
        LoopCaptures x = new LoopCaptures();
        for (int p = 12; p < 24; p++) {
            x.setUp(p, 1 + p % 2);
        }
        Check.due("all", x.keep(), 36);
        Check.due("again", x.keep(), 36);
    }

    private static void inPlaceOfTheOne() {
        Check.sentence("Takes a snapshot of the state, in place of the one that was.");
        LoopCaptures x = new LoopCaptures();
        x.keep();
        x.setUp(0, 0);
        Check.due("the later one", x.keep(), 23);
        x.setUp(1, 0);
        Check.due("restored", x.restore(), 23);
        x.begin();
        Check.due("restored again", x.restore(), 23);
        x.begin();
        x.keep();
        Check.due("the latest one", x.restore(), 24);
    }

    private static void restoreReturns() {
        Check.sentence("Returns how many pieces are on the board then; NONE if there is no snapshot.");
        LoopCaptures x = new LoopCaptures();
        Check.due("no snapshot", x.restore(), NONE);
        x.setUp(0, 0);
        x.keep();
        x.setUp(1, 0);
        x.setUp(2, 0);
        Check.due("then, not before", x.restore(), 23);
        Check.due("it stays", x.restore(), 23);
        LoopCaptures y = board(at(), at());
        y.keep();
        y.begin();
        Check.due("none", y.restore(), 0);
    }

    private static void theSnapshotStays() {
        Check.sentence("Restores the state of the snapshot, which stays. This is an act.");
        LoopCaptures x = new LoopCaptures();
        x.setLimit(7);
        performText(x, TO_AND_FRO);
        x.keep();
        for (int times = 1; times <= 3; times++) {
            x.setLimit(50);
            x.setUp(times, 2);
            x.move(6, 12);
            Check.due("restore()", x.restore(), 24);
            counts("restored", x, 1, 12, 12, 4, 0, 0, 16, 4, 0, 2, 7, 0, 4, 23);
            Check.due("what was set is gone", x.point(times, 0), 1);
        }
        Check.due("undo() of it", x.undo(), 3);
        Check.due("what was set", x.point(3, 0), 2);
        Check.due("what was moved", x.point(12, 0), 1);
    }
}
