/** For each promise ordinary inputs, the edges that the document names, and wrong inputs. */
public final class PromiseTests extends Games {
    private PromiseTests() {
    }

    public static void main(String[] args) {
        constants();
        newObject();
        move();
        moveNotPossible();
        capture();
        captureThatWins();
        captureNotPossible();
        play();
        setUp();
        turn();
        begin();
        setLimit();
        limitEndsTheGame();
        type();
        clearText();
        perform();
        performAllOrNone();
        faults();
        longTexts();
        stopped();
        undo();
        actsAreRecorded();
        keep();
        restore();
        point();
        pointBehindTheEnd();
        way();
        wayOfSeveral();
        circuit();
        reason();
        possible();
        look();
        best();
        count();
        positions();
        latestSixtyPositions();
        Check.finish("PromiseTests");
    }

    private static void constants() {
        Check.due("UNKNOWN", LoopCaptures.UNKNOWN, -101);
        Check.due("BAD_VALUE", LoopCaptures.BAD_VALUE, -102);
        Check.due("FULL", LoopCaptures.FULL, -103);
        Check.due("NOT_POSSIBLE", LoopCaptures.NOT_POSSIBLE, -104);
        Check.due("NONE", LoopCaptures.NONE, -105);
        Check.due("NO_MOVE", LoopCaptures.NO_MOVE, -110);
    }

    // Promise 1

    private static void newObject() {
        LoopCaptures x = new LoopCaptures();
        counts("new", x, 1, 12, 12, 0, 0, 0, 16, 0, 0, 1, 20, 0, 0, 0);
        for (int p = 0; p < 36; p++) {
            Check.due("new: point " + p, x.point(p, 0), p <= 11 ? 1 : p >= 24 ? 2 : 0);
        }
        Check.due("new: stopped(0)", x.stopped(0), NONE);
        Check.due("new: undo()", x.undo(), NONE);
        Check.due("new: restore()", x.restore(), NONE);
    }

    // Promise 2

    private static void move() {
        int[] beside = {7, 8, 9, 13, 15, 19, 20, 21};
        for (int to : beside) {
            LoopCaptures x = board(at(14), at(0));
            Check.due("move to " + to, x.move(14, to), 1);
            Check.due("move to " + to + ": gone", x.point(14, 0), 0);
            Check.due("move to " + to + ": come", x.point(to, 0), 1);
            Check.due("move to " + to + ": other side", x.count(0), 2);
            Check.due("move to " + to + ": moves", x.count(7), 1);
            Check.due("move to " + to + ": captures", x.count(8), 0);
        }
        LoopCaptures x = new LoopCaptures();
        Check.due("first move", x.move(11, 17), 1);
        Check.due("second move", x.move(24, 18), 2);
        Check.due("third move", x.move(17, 11), 3);
        Check.due("moves are recorded", x.count(12), 3);
    }

    private static void moveNotPossible() {
        LoopCaptures x = board(at(11, 14), at(15, 35));
        int history = x.count(12);
        for (int wrong : WRONG_POINTS) {
            Check.due("move from " + wrong, x.move(wrong, 12), UNKNOWN);
            Check.due("move to " + wrong, x.move(14, wrong), UNKNOWN);
        }
        Check.due("move of nothing", x.move(20, 21), -112);
        Check.due("move of the other side", x.move(15, 16), -112);
        Check.due("move of nothing to itself", x.move(20, 20), -112);
        Check.due("move onto an own piece", x.move(14, 11), -113);
        Check.due("move onto itself", x.move(14, 14), -113);
        Check.due("move onto the other side", x.move(14, 15), -114);
        Check.due("move too far", x.move(14, 16), -114);
        Check.due("move two rows", x.move(14, 26), -114);
        Check.due("move around the edge to the right", x.move(11, 12), -114);
        Check.due("move around the edge, two rows", x.move(11, 18), -114);
        Check.due("move around the edge to the same row", x.move(11, 6), -114);
        Check.due("nothing is recorded", x.count(12), history);
        Check.due("nothing is moved", x.count(7), 0);
        Check.due("the side stays", x.count(0), 1);
        x.setUp(15, 0);
        x.setUp(35, 0);
        Check.due("move behind the end", x.move(14, 15), -111);
        Check.due("move of nothing behind the end", x.move(20, 21), -111);
        Check.due("move from no point behind the end", x.move(-1, 21), UNKNOWN);
    }

    // Promise 3

    private static void capture() {
        // From e2 to the right over f2 and the loop to e1.
        LoopCaptures x = board(at(10), at(4, 24));
        x.move(10, 9);
        x.move(24, 25);
        Check.due("quiet moves ahead of the capture", x.count(3), 2);
        Check.due("capture", x.capture(9, 4), 1);
        Check.due("capture: gone", x.point(9, 0), 0);
        Check.due("capture: come", x.point(4, 0), 1);
        counts("capture", x, 2, 1, 1, 0, 0);
        Check.due("capture: moves", x.count(7), 3);
        Check.due("capture: captures", x.count(8), 1);
        Check.due("capture is recorded", x.undo(), 3);
        Check.due("capture undone", x.point(4, 0), 2);
        Check.due("capture undone: quiet moves", x.count(3), 2);
        LoopCaptures y = board(at(4, 24, 31), at(10));
        y.turn();
        Check.due("capture by the side 2", y.capture(10, 4), 2);
        Check.due("capture by the side 2: the side 1 to move", y.count(0), 1);
    }

    private static void captureThatWins() {
        LoopCaptures x = board(at(10), at(4));
        Check.due("last capture", x.capture(10, 4), 0);
        Check.due("last capture: result", x.count(4), 1);
        Check.due("behind it", x.capture(4, 10), -111);
        Check.due("behind it, a move", x.move(4, 5), -111);
        LoopCaptures y = board(at(4), at(10));
        y.turn();
        y.capture(10, 4);
        Check.due("last capture of the side 2: result", y.count(4), 2);
    }

    private static void captureNotPossible() {
        LoopCaptures x = board(at(10, 7), at(4, 16, 9, 0));
        int history = x.count(12);
        for (int wrong : WRONG_POINTS) {
            Check.due("capture from " + wrong, x.capture(wrong, 4), UNKNOWN);
            Check.due("capture to " + wrong, x.capture(10, wrong), UNKNOWN);
        }
        Check.due("capture by nothing", x.capture(20, 4), -112);
        Check.due("capture by the other side", x.capture(4, 10), -112);
        Check.due("capture of an own piece", x.capture(10, 7), -113);
        Check.due("capture of itself", x.capture(10, 10), -113);
        Check.due("capture of nothing", x.capture(10, 11), -114);
        Check.due("capture without a loop", x.capture(10, 16), -114);
        Check.due("capture without a loop, beside", x.capture(10, 9), -114);
        Check.due("capture in the corner", x.capture(10, 0), -114);
        Check.due("nothing is recorded", x.count(12), history);
        x.setUp(11, 1);
        Check.due("capture behind an own piece", x.capture(10, 4), -114);
        x.setUp(11, 2);
        Check.due("capture behind another piece", x.capture(10, 4), -114);
        x.setUp(11, 0);
        Check.due("capture with a free way", x.capture(10, 4), 3);
    }

    // Promise 4

    private static void play() {
        LoopCaptures x = board(at(10), at(4, 30));
        Check.due("play(0)", x.play(0), BAD_VALUE);
        Check.due("play(3)", x.play(3), BAD_VALUE);
        Check.due("play(-1)", x.play(-1), BAD_VALUE);
        Check.due("play(1)", x.play(1), 1004);
        Check.due("play(1): captured", x.count(2), 1);
        Check.due("play(1): captures", x.count(8), 1);
        Check.due("play(1): other side", x.count(0), 2);
        Check.due("play(2)", x.play(2), 3024);
        Check.due("play(2): quiet", x.count(3), 1);
        Check.due("play is recorded", x.undo(), 3);
        Check.due("play undone", x.point(30, 0), 2);
        LoopCaptures over = board(at(10), at());
        int history = over.count(12);
        Check.due("play behind the end", over.play(1), NOT_POSSIBLE);
        Check.due("play(3) behind the end", over.play(3), BAD_VALUE);
        Check.due("play behind the end is not recorded", over.count(12), history);
        LoopCaptures shut = board(at(0), at(1, 6, 7));
        Check.due("play of a side that is shut in", shut.play(2), NOT_POSSIBLE);
        Check.due("which is not the end", shut.count(4), 0);
    }

    // Promise 5

    private static void setUp() {
        LoopCaptures x = new LoopCaptures();
        for (int wrong : WRONG_POINTS) {
            Check.due("setUp(" + wrong + ", 1)", x.setUp(wrong, 1), UNKNOWN);
            Check.due("setUp(" + wrong + ", 3)", x.setUp(wrong, 3), UNKNOWN);
        }
        Check.due("setUp(0, -1)", x.setUp(0, -1), BAD_VALUE);
        Check.due("setUp(0, 3)", x.setUp(0, 3), BAD_VALUE);
        Check.due("setUp(0, 1)", x.setUp(0, 1), NONE);
        Check.due("setUp(35, 2)", x.setUp(35, 2), NONE);
        Check.due("setUp(12, 0)", x.setUp(12, 0), NONE);
        Check.due("nothing is recorded", x.count(12), 0);
        x.move(6, 12);
        x.move(24, 18);
        x.move(12, 6);
        x.move(18, 24);
        Check.due("seen twice", x.count(9), 2);
        Check.due("setUp(0, 1) again", x.setUp(0, 1), NONE);
        Check.due("seen twice still", x.count(9), 2);
        Check.due("quiet moves still", x.count(3), 4);
        Check.due("setUp(0, 2)", x.setUp(0, 2), 1);
        counts("setUp", x, 1, 11, 13, 0, 0);
        Check.due("setUp: seen once", x.count(9), 1);
        Check.due("setUp: moves stay", x.count(7), 4);
        Check.due("setUp(0, 1) back", x.setUp(0, 1), 2);
        Check.due("positions that were are forgotten", x.count(9), 1);
        Check.due("setUp(35, 0)", x.setUp(35, 0), 2);
        Check.due("setUp(17, 1)", x.setUp(17, 1), 0);
        Check.due("setUp is recorded", x.count(12), 4);
        x.undo();
        Check.due("setUp undone", x.point(17, 0), 0);
    }

    // Promise 6

    private static void turn() {
        LoopCaptures x = new LoopCaptures();
        Check.due("turn()", x.turn(), 2);
        Check.due("turn() again", x.turn(), 1);
        Check.due("turn() forgets", x.count(9), 1);
        Check.due("turn() is no move", x.count(7), 0);
        Check.due("turn() is recorded", x.undo(), 1);
        Check.due("turn() undone", x.count(0), 2);
        LoopCaptures y = new LoopCaptures();
        y.setLimit(4);
        performText(y, "a2-a3;a5-a4;a3-a2;a4-a5");
        Check.due("drawn", y.count(4), 3);
        Check.due("turn() behind the end", y.turn(), 2);
        Check.due("quiet moves anew", y.count(3), 0);
        Check.due("it goes on", y.count(4), 0);
        Check.due("moves stay", y.count(7), 4);
        LoopCaptures z = new LoopCaptures();
        performText(z, "a2-a3;a5-a4;a3-a2;a4-a5");
        Check.due("seen", z.count(9), 2);
        z.turn();
        Check.due("positions that were are forgotten", z.count(9), 1);
        z.turn();
        Check.due("the one of before the turns too", z.count(9), 1);
    }

    // Promise 7

    private static void begin() {
        LoopCaptures x = board(at(10), at(4, 24));
        x.setLimit(7);
        x.capture(10, 4);
        x.move(24, 18);
        Check.due("begin()", x.begin(), 2);
        counts("begin", x, 1, 12, 12, 0, 0, 0, 16, 0, 0, 1, 7, 0, 4);
        for (int p = 0; p < 36; p++) {
            Check.due("begin: point " + p, x.point(p, 0), p <= 11 ? 1 : p >= 24 ? 2 : 0);
        }
        Check.due("begin() at the beginning", x.begin(), 24);
        Check.due("begin() is recorded", x.undo(), 3);
        Check.due("the one before", x.undo(), 2);
        counts("undone", x, 1, 1, 1, 1, 0);
        Check.due("undone: moves", x.count(7), 2);
        Check.due("undone: captures", x.count(8), 1);
        x.turn();
        x.begin();
        Check.due("begin() lets the side 1 be to move", x.count(0), 1);
        Check.due("the text stays", performText(x, "a2-a3"), 1);
        x.begin();
        Check.due("the text stays behind begin()", x.count(13), 5);
    }

    // Promise 8

    private static void setLimit() {
        LoopCaptures x = new LoopCaptures();
        int[] wrong = {3, 61, 0, -4, Integer.MIN_VALUE, Integer.MAX_VALUE};
        for (int w : wrong) {
            Check.due("setLimit(" + w + ")", x.setLimit(w), BAD_VALUE);
        }
        Check.due("setLimit(20)", x.setLimit(20), NONE);
        Check.due("nothing is recorded", x.count(12), 0);
        Check.due("setLimit(4)", x.setLimit(4), 20);
        Check.due("setLimit(4) again", x.setLimit(4), NONE);
        Check.due("setLimit(60)", x.setLimit(60), 4);
        Check.due("the setting", x.count(10), 60);
        Check.due("setLimit is recorded", x.undo(), 1);
        Check.due("the setting undone", x.count(10), 4);
    }

    private static void limitEndsTheGame() {
        LoopCaptures x = new LoopCaptures();
        performText(x, "a2-a3;a5-a4;a3-a2;a4-a5;a2-a3");
        Check.due("seen", x.count(9), 2);
        Check.due("goes on", x.count(4), 0);
        Check.due("setLimit(6)", x.setLimit(6), 20);
        Check.due("goes on still", x.count(4), 0);
        Check.due("setLimit keeps the positions", x.count(9), 2);
        Check.due("setLimit keeps the quiet moves", x.count(3), 5);
        Check.due("setLimit(4)", x.setLimit(4), 6);
        Check.due("drawn, beyond the setting", x.count(4), 3);
        Check.due("captures behind the end", x.count(5), 0);
        Check.due("quiet moves behind the end", x.count(6), 0);
        Check.due("setLimit(5)", x.setLimit(5), 4);
        Check.due("drawn at the setting", x.count(4), 3);
        Check.due("setLimit(6) again", x.setLimit(6), 5);
        Check.due("goes on again", x.count(4), 0);
        Check.due("the last one", x.move(24, 18), 6);
        Check.due("drawn by it", x.count(4), 3);
        Check.due("no more", x.move(12, 6), -111);
    }

    // Promise 9

    private static void type() {
        LoopCaptures x = new LoopCaptures();
        char[] any = {'a', '\u0000', ' ', ';', '\u00ff', '\uffff', '\ud800'};
        for (int i = 0; i < any.length; i++) {
            Check.due("type " + (int) any[i], x.type(any[i]), i + 1);
        }
        for (int i = any.length + 1; i <= 80; i++) {
            Check.due("type the character " + i, x.type('a'), i);
        }
        Check.due("type the character 81", x.type('a'), FULL);
        Check.due("again", x.type('z'), FULL);
        Check.due("the length", x.count(13), 80);
        Check.due("type is no act", x.count(12), 0);
        Check.due("the first fault", x.perform(), -201);
    }

    // Promise 10

    private static void clearText() {
        LoopCaptures x = new LoopCaptures();
        Check.due("clearText() of nothing", x.clearText(), 0);
        typeAll(x, "a2-a3");
        Check.due("clearText()", x.clearText(), 5);
        Check.due("clearText() again", x.clearText(), 0);
        Check.due("the length", x.count(13), 0);
        Check.due("an empty text", x.perform(), -200);
        Check.due("clearText is no act", x.count(12), 0);
        for (int i = 0; i < 90; i++) {
            x.type('a');
        }
        Check.due("clearText() of a full text", x.clearText(), 80);
        Check.due("type behind it", x.type('a'), 1);
    }

    // Promise 11

    private static void perform() {
        LoopCaptures x = new LoopCaptures();
        Check.due("one move", performText(x, "f2-f3"), 1);
        Check.due("one move: come", x.point(17, 0), 1);
        Check.due("one move: gone", x.point(11, 0), 0);
        Check.due("the text stays", x.count(13), 5);
        Check.due("two moves", performText(x, "f5-f4;f3-f2"), 2);
        Check.due("one act each", x.count(12), 2);
        Check.due("three quiet moves", x.count(3), 3);
        Check.due("the text is performed again", x.perform(), NOT_POSSIBLE);
        Check.due("undo of two moves", x.undo(), 1);
        Check.due("two moves undone", x.count(3), 1);
        LoopCaptures y = board(at(10), at(4, 24));
        Check.due("capture in a text", performText(y, "e2xe1;a5-b5;e1-f1"), 3);
        Check.due("capture in a text: captures", y.count(8), 1);
        Check.due("capture in a text: moves", y.count(7), 3);
        Check.due("capture in a text: quiet moves", y.count(3), 2);
        LoopCaptures corner = board(at(0), at(35));
        Check.due("the corners", performText(corner, "a1-b2;f6-e5"), 2);
        Check.due("the corner 0", corner.point(7, 0), 1);
        Check.due("the corner 35", corner.point(28, 0), 2);
    }

    private static void performAllOrNone() {
        LoopCaptures x = new LoopCaptures();
        x.move(6, 12);
        x.move(24, 18);
        Check.due("the last is stopped", performText(x, "a3-a2;a4-a5;a2-a3;a3-a4"), NOT_POSSIBLE);
        Check.due("its number", x.stopped(0), 3);
        Check.due("its reason", x.stopped(1), 2);
        counts("none is made", x, 1, 12, 12, 2, 0, 0, x.count(6), 2, 0, 1, 20, 0, 2, 23);
        Check.due("none is made: come", x.point(12, 0), 1);
        Check.due("none is made: stays", x.point(18, 0), 2);
        x.setLimit(4);
        Check.due("the end within", performText(x, "a3-a2;a4-a5;a2-a3"), NOT_POSSIBLE);
        Check.due("the end within: its number", x.stopped(0), 2);
        Check.due("the end within: its reason", x.stopped(1), 1);
        Check.due("up to the end", performText(x, "a3-a2;a4-a5"), 2);
        Check.due("drawn", x.count(4), 3);
    }

    private static void faults() {
        String[] texts = {
            "", "A", "g1", "`1", "1", "-", ";", "a", "a0", "a7", "aa", "a1", "a1+", "a1;", "a1X",
            "a1-", "a1-g", "a1x1", "a1-f", "a1-f7", "a1-f0", "a1-f6,", "a1-f6 ", "a1-f6a", "a1xf6;",
            "a1xf6;;", "a1xf6;a1", "a1xf6;a1xf7;", " a1-f6", "a1\u0000f6", "\uff41", "a1-f6;a1-f6;g"
        };
        int[] due = {
            0, 0, 0, 0, 0, 0, 0, 1, 1, 1, 1, 2, 2, 2, 2,
            3, 3, 3, 4, 4, 4, 5, 5, 5, 6,
            6, 8, 10, 0, 2, 0, 12
        };
        for (int i = 0; i < texts.length; i++) {
            LoopCaptures x = new LoopCaptures();
            Check.due("fault of '" + texts[i] + "'", performText(x, texts[i]), -200 - due[i]);
            Check.due("a fault is no stop", x.stopped(0), NONE);
            Check.due("a fault is not recorded", x.count(12), 0);
        }
        LoopCaptures over = board(at(10), at());
        Check.due("fault behind the end", performText(over, "g"), -200);
    }

    private static void longTexts() {
        LoopCaptures x = new LoopCaptures();
        String four = "a2-a3;a5-a4;a3-a2;a4-a5;";
        Check.due("thirteen moves", performText(x, four + four + four + "a2-a3"), 13);
        Check.due("thirteen moves made", x.count(7), 13);
        Check.due("thirteen moves: length", x.count(13), 77);
        x.begin();
        Check.due("80 characters", performText(x, four + four + four + "a2-a3;a5"), -280);
        Check.due("80 characters: none is made", x.count(7), 0);
        Check.due("more than 80", performText(x, four + four + four + "a2-a3;a5-a4"), -280);
    }

    // Promise 12

    private static void stopped() {
        LoopCaptures x = new LoopCaptures();
        Check.due("stopped(-1)", x.stopped(-1), BAD_VALUE);
        Check.due("stopped(2)", x.stopped(2), BAD_VALUE);
        Check.due("stopped(0), none yet", x.stopped(0), NONE);
        Check.due("stopped(1), none yet", x.stopped(1), NONE);
        performText(x, "a2-a3");
        Check.due("stopped(0) behind a performance", x.stopped(0), NONE);
        x.move(36, 0);
        x.move(0, 0);
        Check.due("stopped(0) behind move()", x.stopped(0), NONE);
        performText(x, "a5-a4;b2-b3;a3-b3");
        Check.due("stopped(0), not its piece", x.stopped(0), 2);
        Check.due("stopped(1), not its piece", x.stopped(1), 2);
        performText(x, "a5-b5");
        Check.due("stopped(0), onto its own", x.stopped(0), 0);
        Check.due("stopped(1), onto its own", x.stopped(1), 3);
        performText(x, "a5-a4;a3xa4");
        Check.due("stopped(0), no way", x.stopped(0), 1);
        Check.due("stopped(1), no way", x.stopped(1), 4);
        performText(x, "a5-a4");
        Check.due("stopped(0) stays", x.stopped(0), 1);
        x.undo();
        x.undo();
        Check.due("stopped(0) stays behind undo()", x.stopped(0), 1);
        performText(x, "a5-a");
        Check.due("stopped(1) stays behind a fault", x.stopped(1), 4);
        x.begin();
        x.clearText();
        Check.due("stopped(1) stays behind begin()", x.stopped(1), 4);
    }

    // Promise 13

    private static void undo() {
        LoopCaptures x = new LoopCaptures();
        Check.due("undo() of nothing", x.undo(), NONE);
        x.move(6, 12);
        x.move(24, 18);
        x.move(7, 13);
        x.move(25, 19);
        Check.due("four states", x.count(12), 4);
        x.move(8, 14);
        Check.due("four states still", x.count(12), 4);
        Check.due("undo()", x.undo(), 3);
        Check.due("the latest is back", x.point(8, 0), 1);
        Check.due("four moves left", x.count(7), 4);
        Check.due("undo() 2", x.undo(), 2);
        Check.due("undo() 3", x.undo(), 1);
        Check.due("undo() 4", x.undo(), 0);
        Check.due("the oldest was dropped", x.count(7), 1);
        Check.due("its board", x.point(12, 0), 1);
        Check.due("undo() 5", x.undo(), NONE);
        Check.due("one move left", x.count(7), 1);
        for (int i = 0; i < 11; i++) {
            x.turn();
        }
        Check.due("four states of many", x.undo(), 3);
        LoopCaptures y = new LoopCaptures();
        performText(y, "a2-a3;a5-a4;a3-a2;a4-a5");
        y.setUp(0, 0);
        y.undo();
        Check.due("undo() brings back the positions", y.count(9), 2);
        Check.due("undo() brings back the quiet moves", y.count(3), 4);
        Check.due("undo() leaves the text", y.count(13), 23);
    }

    private static void actsAreRecorded() {
        LoopCaptures x = new LoopCaptures();
        x.keep();
        int[] told = {
            x.clearText(), x.type('a'), x.possible(0), x.look(1), x.best(1), x.count(5),
            x.reason(6, 12, false), x.way(0, 35, 0), x.circuit(0, 0), x.point(0, 0), x.stopped(0)
        };
        Check.due("no act is recorded of " + told.length, x.count(12), 0);
        x.restore();
        Check.due("restore() is an act", x.count(12), 1);
        x.keep();
        Check.due("keep() is none", x.count(12), 1);
        x.begin();
        Check.due("begin() is an act", x.count(12), 2);
        x.turn();
        Check.due("turn() is an act", x.count(12), 3);
        x.play(1);
        Check.due("play() is an act", x.count(12), 4);
    }

    // Promise 14

    private static void keep() {
        LoopCaptures x = new LoopCaptures();
        Check.due("keep()", x.keep(), 24);
        x.setUp(0, 0);
        x.setUp(35, 0);
        Check.due("keep() of less", x.keep(), 22);
        x.begin();
        Check.due("the later snapshot", x.restore(), 22);
        LoopCaptures y = board(at(), at());
        Check.due("keep() of an empty board", y.keep(), 0);
        y.begin();
        Check.due("restore() of an empty board", y.restore(), 0);
        Check.due("with no piece at all it is drawn", y.count(4), 3);
    }

    // Promise 15

    private static void restore() {
        LoopCaptures x = new LoopCaptures();
        Check.due("restore() of nothing", x.restore(), NONE);
        Check.due("nothing is recorded", x.count(12), 0);
        x.setLimit(9);
        performText(x, "a2-a3;a5-a4;a3-a2;a4-a5");
        x.keep();
        x.setLimit(30);
        x.setUp(5, 0);
        x.turn();
        performText(x, "f6-f5");
        Check.due("restore()", x.restore(), 24);
        counts("restored", x, 1, 12, 12, 4, 0, 0, 16, 4, 0, 2, 9, 0, 4, 5);
        Check.due("restore() is undone", x.undo(), 3);
        Check.due("restore() undone: setting", x.count(10), 30);
        Check.due("the snapshot stays", x.restore(), 24);
        Check.due("the setting is restored", x.count(10), 9);
        x.move(6, 12);
        Check.due("the snapshot stays as it was", x.restore(), 24);
        Check.due("quiet moves of it", x.count(3), 4);
    }

    // Promise 16

    private static void point() {
        LoopCaptures x = board(at(10, 12), at(4, 8, 35));
        for (int wrong : WRONG_POINTS) {
            Check.due("point(" + wrong + ", 0)", x.point(wrong, 0), UNKNOWN);
            Check.due("point(" + wrong + ", 9)", x.point(wrong, 9), UNKNOWN);
        }
        Check.due("point(0, -1)", x.point(0, -1), BAD_VALUE);
        Check.due("point(0, 5)", x.point(0, 5), BAD_VALUE);
        Check.due("what stands: 1", x.point(10, 0), 1);
        Check.due("what stands: 2", x.point(35, 0), 2);
        Check.due("what stands: nothing", x.point(0, 0), 0);
        for (int what = 0; what <= 4; what++) {
            Check.due("nothing, what " + what, x.point(0, what), 0);
        }
        Check.due("threats to e1", x.point(4, 1), 1);
        Check.due("threats to a3", x.point(12, 1), 1);
        Check.due("threats to e2", x.point(10, 1), 2);
        Check.due("threats to f6", x.point(35, 1), 0);
        Check.due("captures of e2", x.point(10, 3), 2);
        Check.due("captures of e1", x.point(4, 3), 1);
        Check.due("captures of f6", x.point(35, 3), 0);
        Check.due("covers of e1, from which e2 shuts c2 out", x.point(4, 2), 0);
        Check.due("covers of f6", x.point(35, 2), 0);
        LoopCaptures beside = board(at(1), at(11));
        Check.due("quiet moves beside the corner", beside.point(1, 4), 5);
        Check.due("quiet moves at the right edge", beside.point(11, 4), 5);
        LoopCaptures covered = board(at(12), at(4, 10, 0, 5));
        Check.due("covers of e1 by e2", covered.point(4, 2), 1);
        Check.due("covers of e2 by e1", covered.point(10, 2), 1);
        Check.due("no covers of a1", covered.point(0, 2), 0);
        Check.due("what covers is no threat", covered.point(4, 1), 0);
        Check.due("quiet moves of e2", x.point(10, 4), 7);
        Check.due("quiet moves of f6", x.point(35, 4), 3);
        Check.due("quiet moves of e1", x.point(4, 4), 4);
        int[] before = {x.point(4, 1), x.point(12, 1), x.point(10, 3), x.point(4, 3), x.point(10, 4)};
        x.turn();
        int[] behind = {x.point(4, 1), x.point(12, 1), x.point(10, 3), x.point(4, 3), x.point(10, 4)};
        for (int i = 0; i < before.length; i++) {
            Check.due("whichever side is to move, " + i, behind[i], before[i]);
        }
    }

    private static void pointBehindTheEnd() {
        LoopCaptures x = board(at(10), at(4, 30));
        x.setLimit(4);
        performText(x, "e2-e3;a6-a5;e3-e2;a5-a6");
        Check.due("drawn", x.count(4), 3);
        Check.due("threats", x.point(4, 1), 1);
        Check.due("captures", x.point(10, 3), 1);
        Check.due("quiet moves", x.point(30, 4), 3);
        Check.due("the way", x.way(10, 4, 0), 1);
        Check.due("threatened: e2 by e1 over the loop", x.count(11), 1);
        Check.due("no capture is possible", x.count(5), 0);
    }

    // Promise 17

    private static void way() {
        LoopCaptures x = board(at(10), at(4, 0));
        for (int wrong : WRONG_POINTS) {
            Check.due("way(" + wrong + ", 4, 0)", x.way(wrong, 4, 0), UNKNOWN);
            Check.due("way(10, " + wrong + ", 9)", x.way(10, wrong, 9), UNKNOWN);
        }
        Check.due("way(10, 4, -1)", x.way(10, 4, -1), BAD_VALUE);
        Check.due("way(10, 4, 5)", x.way(10, 4, 5), BAD_VALUE);
        Check.due("way(20, 21, 5)", x.way(20, 21, 5), BAD_VALUE);
        wayIs("over a loop", x, 10, 4, 1, 2, 0, 4, 1);
        wayIs("back, of the side that is not to move", x, 4, 10, 1, 2, 0, 6, 0);
        Check.due("to the corner", x.way(10, 0, 0), NONE);
        Check.due("from the corner", x.way(0, 10, 0), NONE);
        Check.due("to nothing", x.way(10, 5, 0), NONE);
        Check.due("from nothing", x.way(5, 4, 0), NONE);
        Check.due("from nothing to nothing", x.way(6, 1, 0), NONE);
        Check.due("to itself", x.way(10, 10, 0), NONE);
        x.setUp(4, 1);
        Check.due("to the same side", x.way(10, 4, 0), NONE);
        LoopCaptures own = board(at(7), at(13));
        wayIs("over its own point", own, 7, 13, 1, 4, 0, 1, 0);
        LoopCaptures far = board(at(11), at(9));
        // To the left d2 is met without a loop; to the right the way goes around everything.
        wayIs("over four loops", far, 11, 9, 4, 22, 0, 5, 1);
    }

    private static void wayOfSeveral() {
        LoopCaptures even = board(at(6), at(29));
        wayIs("forwards ahead of backwards", even, 6, 29, 2, 12, 0, 0, 1);
        even.setUp(11, 1);
        wayIs("backwards, as forwards is shut", even, 6, 29, 2, 12, 0, 0, 0);
        LoopCaptures two = board(at(7), at(28));
        wayIs("the first place, forwards", two, 7, 28, 1, 9, 0, 1, 1);
        two.setUp(11, 1);
        wayIs("the other place, backwards", two, 7, 28, 1, 9, 0, 22, 0);
        LoopCaptures back = board(at(10), at(25));
        wayIs("the first place, backwards", back, 10, 25, 1, 9, 0, 4, 0);
        back.setUp(6, 2);
        wayIs("the other place, forwards", back, 10, 25, 1, 9, 0, 7, 1);
        LoopCaptures circuits = board(at(8), at(16));
        wayIs("the first circuit", circuits, 8, 16, 1, 6, 0, 2, 1);
        circuits.setUp(9, 1);
        wayIs("the other circuit", circuits, 8, 16, 1, 6, 1, 22, 1);
        circuits.setUp(12, 1);
        wayIs("over three loops", circuits, 8, 16, 3, 18, 0, 2, 0);
        LoopCaptures fewest = board(at(8), at(13));
        wayIs("the fewest places, ahead of the first circuit", fewest, 8, 13, 1, 3, 1, 22, 1);
        fewest.setUp(12, 1);
        wayIs("more places of the first circuit", fewest, 8, 13, 1, 5, 0, 2, 0);
        LoopCaptures places = board(at(13), at(7));
        // Up the column b2 is met without a loop; down the column it is met from the left.
        wayIs("the only one", places, 13, 7, 3, 20, 0, 21, 0);
    }

    // Promise 18

    private static void circuit() {
        int[][] want = {
            {6, 7, 8, 9, 10, 11, 4, 10, 16, 22, 28, 34, 29, 28, 27, 26, 25, 24, 31, 25, 19, 13, 7, 1},
            {12, 13, 14, 15, 16, 17, 3, 9, 15, 21, 27, 33, 23, 22, 21, 20, 19, 18, 32, 26, 20, 14, 8, 2}
        };
        LoopCaptures x = new LoopCaptures();
        for (int c = 0; c < 2; c++) {
            for (int place = 0; place < 24; place++) {
                Check.due("circuit(" + c + ", " + place + ")", x.circuit(c, place), want[c][place]);
            }
        }
        int[] wrong = {-1, 24, Integer.MIN_VALUE, Integer.MAX_VALUE};
        for (int w : wrong) {
            Check.due("circuit(0, " + w + ")", x.circuit(0, w), UNKNOWN);
            Check.due("circuit(1, " + w + ")", x.circuit(1, w), UNKNOWN);
        }
        Check.due("circuit(-1, 0)", x.circuit(-1, 0), UNKNOWN);
        Check.due("circuit(2, 0)", x.circuit(2, 0), UNKNOWN);
        Check.due("circuit(178956971, 0)", x.circuit(178956971, 0), UNKNOWN);
    }

    // Promise 19

    private static void reason() {
        LoopCaptures x = board(at(10, 9), at(4, 16));
        for (int wrong : WRONG_POINTS) {
            Check.due("reason(" + wrong + ", 0, true)", x.reason(wrong, 0, true), UNKNOWN);
            Check.due("reason(0, " + wrong + ", false)", x.reason(0, wrong, false), UNKNOWN);
        }
        Check.due("a quiet move", x.reason(10, 11, false), 0);
        Check.due("a capture", x.reason(10, 4, true), 0);
        Check.due("a quiet move to the other side", x.reason(10, 4, false), 4);
        Check.due("a quiet move too far", x.reason(10, 12, false), 4);
        Check.due("a capture of nothing", x.reason(10, 11, true), 4);
        Check.due("a capture without a way", x.reason(10, 16, true), 4);
        Check.due("a capture behind a piece", x.reason(9, 4, true), 4);
        Check.due("onto its own", x.reason(10, 9, false), 3);
        Check.due("onto its own, a capture", x.reason(10, 9, true), 3);
        Check.due("the same point", x.reason(10, 10, true), 3);
        Check.due("from nothing", x.reason(0, 1, false), 2);
        Check.due("from nothing to the side to move", x.reason(0, 9, false), 2);
        Check.due("from the other side", x.reason(4, 10, true), 2);
        Check.due("nothing is recorded", x.count(12), 4);
        x.setUp(4, 0);
        x.setUp(16, 0);
        Check.due("behind the end", x.reason(10, 11, false), 1);
        Check.due("behind the end, from nothing", x.reason(0, 0, true), 1);
        Check.due("behind the end, no point", x.reason(36, 0, true), UNKNOWN);
    }

    // Promise 20

    private static void possible() {
        LoopCaptures x = board(at(10, 0), at(4, 31));
        Check.due("possible(-1)", x.possible(-1), BAD_VALUE);
        Check.due("possible(min)", x.possible(Integer.MIN_VALUE), BAD_VALUE);
        int[] want = {
            1004, 1031, 1, 6, 7,
            1003, 1005, 1009, 1011, 1015, 1016, 1017
        };
        for (int rank = 0; rank < want.length; rank++) {
            Check.due("possible(" + rank + ")", x.possible(rank), want[rank]);
        }
        Check.due("possible(12)", x.possible(want.length), NONE);
        Check.due("possible(max)", x.possible(Integer.MAX_VALUE), NONE);
        Check.due("captures", x.count(5), 2);
        Check.due("quiet moves", x.count(6), 10);
        x.turn();
        Check.due("of the other side", x.possible(0), 410);
        x.begin();
        Check.due("at first", x.possible(0), 612);
        Check.due("the last at first", x.possible(15), 1117);
        Check.due("no more at first", x.possible(16), NONE);
        LoopCaptures over = board(at(10), at());
        Check.due("behind the end", over.possible(0), NONE);
        Check.due("behind the end, negative", over.possible(-1), BAD_VALUE);
        severalCaptures();
        manyMoves();
        // Two ways to the same piece are one move.
        LoopCaptures twice = board(at(6), at(29));
        Check.due("one capture by two ways", twice.count(5), 1);
        Check.due("then quiet moves", twice.possible(1), 600);
    }

    /** The goings from e3 meet f5, f2, d6 and c1 one after the other; the points order the captures. */
    private static void severalCaptures() {
        LoopCaptures x = board(at(10), at(6, 4, 29));
        int[] want = {1004, 1029, 1003, 1005};
        for (int rank = 0; rank < want.length; rank++) {
            Check.due("several captures: possible(" + rank + ")", x.possible(rank), want[rank]);
        }
        Check.due("several captures", x.count(5), 2);
        LoopCaptures y = board(at(16), at(11, 2, 29, 33));
        int[] wantOfFour = {1602, 1611, 1629, 1633, 1609};
        for (int rank = 0; rank < wantOfFour.length; rank++) {
            Check.due("four captures: possible(" + rank + ")", y.possible(rank), wantOfFour[rank]);
        }
        Check.due("four captures", y.count(5), 4);
    }

    /** Every other row full of pieces that can step up and down. */
    private static void manyMoves() {
        LoopCaptures x = board(at(0, 1, 2, 3, 4, 5, 12, 13, 14, 15, 16, 17, 24, 25, 26, 27, 28, 29), at(35));
        Check.due("many quiet moves", x.count(6), 78);
        Check.due("the last of many", x.possible(77), 2934);
        Check.due("no more of many", x.possible(78), NONE);
    }

    // Promise 21

    private static void look() {
        LoopCaptures x = board(at(10), at(4, 30));
        Check.due("look(-1)", x.look(-1), BAD_VALUE);
        Check.due("look(3)", x.look(3), BAD_VALUE);
        Check.due("look(0)", x.look(0), -1);
        Check.due("look(1)", x.look(1), 0);
        Check.due("look(2)", x.look(2), 0);
        x.turn();
        Check.due("look(0) of the other side", x.look(0), 1);
        Check.due("look(1) of the other side", x.look(1), 2);
        // Behind the capture of the last piece the game is over.
        Check.due("look(2) of the other side", x.look(2), 2);
        x.setUp(0, 1);
        Check.due("look(2), it is no end", x.look(2), 1);
        Check.due("look() changes nothing", x.count(0), 2);
        LoopCaptures over = board(at(10, 4), at());
        Check.due("look(2) behind the end", over.look(2), 2);
        Check.due("look(1) behind the end", over.look(1), 2);
        LoopCaptures none = board(at(), at());
        Check.due("look(2) of an empty board", none.look(2), 0);
        LoopCaptures shut = board(at(0), at(1, 6, 7));
        Check.due("look(2) of a side that is shut in", shut.look(2), -2);
        // Wherever a1 goes, a2 captures it, unless the game is drawn before.
        LoopCaptures near = board(at(0), at(6, 35));
        near.setLimit(5);
        performText(near, "a1-b1;f6-f5;b1-a1;f5-f6");
        Check.due("look(1) ahead of the end", near.look(1), -1);
        Check.due("look(2) ahead of the end", near.look(2), -1);
        near.setLimit(6);
        Check.due("look(2) farther from the end", near.look(2), -2);
        near.setLimit(4);
        Check.due("look(2) behind the end, drawn", near.look(2), -1);
    }

    // Promise 22

    private static void best() {
        LoopCaptures x = board(at(10), at(4, 24));
        Check.due("best(0)", x.best(0), BAD_VALUE);
        Check.due("best(3)", x.best(3), BAD_VALUE);
        Check.due("best(-1)", x.best(-1), BAD_VALUE);
        Check.due("best(1)", x.best(1), 1004);
        Check.due("best(2)", x.best(2), 1004);
        Check.due("nothing is recorded", x.count(12), 4);
        Check.due("nothing is moved", x.point(10, 0), 1);
        Check.due("the side stays", x.count(0), 1);
        LoopCaptures over = board(at(10), at());
        Check.due("best(1) behind the end", over.best(1), NONE);
        Check.due("best(2) behind the end", over.best(2), NONE);
        Check.due("best(3) behind the end", over.best(3), BAD_VALUE);
        LoopCaptures shut = board(at(0), at(1, 6, 7));
        Check.due("best(1) of a side that is shut in", shut.best(1), NONE);
        LoopCaptures fresh = new LoopCaptures();
        Check.due("best(1) of several", fresh.best(1), 612);
        Check.due("best(2) of several", fresh.best(2), 612);
        // Of the points beside f3 only f4 is one to which b2 could not go.
        LoopCaptures flee = board(at(17), at(7));
        Check.due("best(1) sees no threat", flee.best(1), 1710);
        Check.due("best(2) sees the threat", flee.best(2), 1723);
        flee.setLimit(5);
        performText(flee, "f3-f4;b2-a3;f4-f3;a3-b2");
        Check.due("best(2) ahead of the end", flee.best(2), 1710);
        flee.setLimit(6);
        Check.due("best(2) farther from the end", flee.best(2), 1723);
    }

    // Promise 23

    private static void count() {
        LoopCaptures x = board(at(10, 0), at(4, 31, 30));
        Check.due("count(-1)", x.count(-1), BAD_VALUE);
        Check.due("count(14)", x.count(14), BAD_VALUE);
        Check.due("count(min)", x.count(Integer.MIN_VALUE), BAD_VALUE);
        counts("a board", x, 1, 2, 3, 0, 0, 2, 10, 0, 0, 1, 20, 1, 4, 0);
        x.turn();
        Check.due("threatened of the side 2", x.count(11), 2);
        x.capture(4, 10);
        counts("behind a capture", x, 1, 1, 3, 0, 0);
        Check.due("moves", x.count(7), 1);
        Check.due("captures", x.count(8), 1);
        x.move(0, 1);
        Check.due("moves, both kinds", x.count(7), 2);
        Check.due("captures still", x.count(8), 1);
        Check.due("quiet moves", x.count(3), 1);
        x.setUp(1, 0);
        Check.due("won by the side 2", x.count(4), 2);
        Check.due("none is possible", x.count(6), 0);
        x.setUp(4, 0);
        x.setUp(10, 0);
        x.setUp(30, 0);
        x.setUp(31, 0);
        Check.due("no piece at all", x.count(4), 3);
        x.setUp(31, 1);
        Check.due("won by the side 1", x.count(4), 1);
        typeAll(x, "abc");
        Check.due("the text", x.count(13), 3);
    }

    // The positions of the section "Terms"

    private static void positions() {
        LoopCaptures x = new LoopCaptures();
        int[] seen = {1, 1, 1, 2, 2, 2, 2, 3};
        int[][] steps = {{6, 12}, {24, 18}, {12, 6}, {18, 24}};
        for (int i = 0; i < seen.length; i++) {
            x.move(steps[i % 4][0], steps[i % 4][1]);
            Check.due("seen behind the move " + (i + 1), x.count(9), seen[i]);
        }
        x.undo();
        Check.due("seen behind undo()", x.count(9), 2);
        x.begin();
        Check.due("seen behind begin()", x.count(9), 1);
        LoopCaptures y = board(at(10, 0), at(4, 24, 30));
        performText(y, "a1-a2;a5-b5;a2-a1;b5-a5");
        Check.due("seen again", y.count(9), 2);
        y.capture(10, 4);
        Check.due("seen behind a capture", y.count(9), 1);
        performText(y, "a5-b5;a1-a2;b5-a5;a2-a1");
        Check.due("seen again behind it", y.count(9), 2);
        // The same board with the other side to move is another position.
        LoopCaptures z = board(at(0), at(35));
        performText(z, "a1-a2;f6-f5;a2-b1;f5-f6;b1-a1");
        Check.due("the other side to move", z.count(9), 1);
    }

    private static void latestSixtyPositions() {
        LoopCaptures x = new LoopCaptures();
        x.setLimit(60);
        String four = "a2-a3;a5-a4;a3-a2;a4-a5;";
        String twelve = four + four + four.substring(0, 23);
        for (int i = 1; i <= 4; i++) {
            Check.due("twelve moves", performText(x, twelve), 12);
            Check.due("seen behind " + 12 * i, x.count(9), 1 + 3 * i);
        }
        performText(x, four + four + "a2-a3;a5-a4;a3-a2");
        Check.due("seen behind 59", x.count(9), 15);
        Check.due("the last quiet move", x.move(18, 24), 60);
        // The position of now is one of the latest 60, so that the very first is not looked at.
        Check.due("seen behind 60", x.count(9), 15);
        Check.due("drawn", x.count(4), 3);
        x.undo();
        Check.due("another last quiet move", x.move(25, 19), 60);
        Check.due("which was not seen before", x.count(9), 1);
    }
}
