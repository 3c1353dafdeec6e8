import java.util.ArrayList;
import java.util.List;
import java.util.function.Supplier;

/** The sentences of the sections "THE END", "POSITIONS" and "LOOKING AHEAD"; a test for each. */
public final class GameTermsTests extends Games {
    private GameTermsTests() {
    }

    public static void main(String[] args) {
        wonByASide();
        onePieceLeft();
        noPieceAtAll();
        drawnByQuietMoves();
        theSettingAtFirst();
        theLeastSetting();
        theGreatestSetting();
        behindTheLatestCapture();
        behindTheBeginning();
        behindTheEndNothing();
        aSettingMadeLess();
        theBoardAndTheSide();
        whoStandsWhere();
        howOftenItWasThere();
        sinceTheLatestCapture();
        setUpForgets();
        theLatestSixty();
        withinTheLatestSixty();
        positionsAreNoEnd();
        theWorth();
        theDepthZero();
        theGreatestOverAllMoves();
        noMoveIsPossible();
        theEndWithinTheLook();
        capturesAheadOfQuietMoves();
        thePointFromWhichTheyGo();
        theOneToWhich();
        allPossibleMoves();
        Check.finish("GameTermsTests");
    }

    // THE END

    private static void wonByASide() {
        Check.sentence("The game is won by a side as the other one has no piece left");
        LoopCaptures x = board(at(10), at(4));
        Check.due("before", x.count(4), 0);
        x.capture(10, 4);
        Check.due("by the side 1", x.count(4), 1);
        LoopCaptures y = board(at(4), at(10));
        y.turn();
        y.capture(10, 4);
        Check.due("by the side 2", y.count(4), 2);
        LoopCaptures z = board(at(10), at(4));
        z.setUp(4, 0);
        Check.due("by setUp(), the side 1", z.count(4), 1);
        z.turn();
        Check.due("whichever side is to move", z.count(4), 1);
        z.setUp(30, 2);
        Check.due("it goes on with a new piece", z.count(4), 0);
        z.setUp(10, 2);
        Check.due("by setUp(), the side 2", z.count(4), 2);
        z.undo();
        Check.due("undone", z.count(4), 0);
    }

    private static void onePieceLeft() {
        Check.sentence("as the other one has no piece left", "not with one piece");
        LoopCaptures x = board(at(10), at(4, 0));
        Check.due("capture", x.capture(10, 4), 1);
        Check.due("it goes on", x.count(4), 0);
        Check.due("a move of the last piece", x.move(0, 6), 1);
    }

    private static void noPieceAtAll() {
        Check.sentence("(with no piece at all it is drawn)");
        LoopCaptures x = board(at(), at());
        Check.due("drawn", x.count(4), 3);
        Check.due("reason", x.reason(0, 1, false), 1);
        x.turn();
        Check.due("drawn, whichever side is to move", x.count(4), 3);
        x.setLimit(60);
        Check.due("drawn with any setting", x.count(4), 3);
        x.setUp(17, 2);
        Check.due("with one piece it is won", x.count(4), 2);
    }

    /** Plays moves to and fro until there are so many; the last one is told. */
    private static void shuffle(LoopCaptures x, int moves) {
        int[][] steps = {{6, 12}, {24, 18}, {12, 6}, {18, 24}};
        for (int made = 0; made < moves; made++) {
            Check.due("quiet move " + (made + 1), x.move(steps[made % 4][0], steps[made % 4][1]), made + 1);
        }
    }

    private static void drawnAt(LoopCaptures x, int limit) {
        shuffle(x, limit - 1);
        Check.due("one less: result", x.count(4), 0);
        Check.due("one less: quiet moves", x.count(3), limit - 1);
        int last = x.possible(0);
        Check.due("the last one", x.move(last / 100, last % 100), limit);
        Check.due("as many: result", x.count(4), 3);
        Check.due("as many: reason", x.reason(0, 0, false), 1);
    }

    private static void drawnByQuietMoves() {
        Check.sentence("It is drawn when there were as many quiet moves behind the latest capture "
            + "(or the beginning) as the setting 0 tells");
        int[] limits = {5, 7, 19, 21, 33};
        for (int limit : limits) {
            LoopCaptures x = new LoopCaptures();
            x.setLimit(limit);
            drawnAt(x, limit);
        }
    }

    private static void theSettingAtFirst() {
        Check.sentence("(4 to 60; 20 at first)");
        LoopCaptures x = new LoopCaptures();
        Check.due("at first", x.count(10), 20);
        drawnAt(x, 20);
    }

    private static void theLeastSetting() {
        Check.sentence("(4 to 60");
        LoopCaptures x = new LoopCaptures();
        Check.due("3", x.setLimit(3), BAD_VALUE);
        Check.due("4", x.setLimit(4), 20);
        drawnAt(x, 4);
    }

    private static void theGreatestSetting() {
        Check.sentence("4 to 60;");
        LoopCaptures x = new LoopCaptures();
        Check.due("61", x.setLimit(61), BAD_VALUE);
        Check.due("60", x.setLimit(60), 20);
        drawnAt(x, 60);
    }

    private static void behindTheLatestCapture() {
        Check.sentence("quiet moves behind the latest capture");
        LoopCaptures x = board(at(10, 0), at(4, 24, 30));
        x.setLimit(4);
        Check.due("three ahead of it", performText(x, "a1-a2;a5-a4;a2-a1"), 3);
        x.turn();
        Check.due("three ahead of it again", performText(x, "a1-a2;a4-a5;a2-a1"), 3);
        x.undo();
        Check.due("one to go", performText(x, "a1-b1;a4-a5;e2xe1;a5-a4"), 4);
        Check.due("one behind it", x.count(3), 1);
        Check.due("it goes on", x.count(4), 0);
        Check.due("two more", performText(x, "b1-a1;a4-a5"), 2);
        Check.due("it goes on with three", x.count(4), 0);
        Check.due("the fourth", x.move(0, 1), 4);
        Check.due("drawn", x.count(4), 3);
    }

    private static void behindTheBeginning() {
        Check.sentence("(or the beginning)");
        LoopCaptures x = new LoopCaptures();
        x.setLimit(4);
        shuffle(x, 3);
        x.begin();
        Check.due("none behind the beginning", x.count(3), 0);
        drawnAt(x, 4);
        x.begin();
        Check.due("it goes on", x.count(4), 0);
    }

    private static void behindTheEndNothing() {
        Check.sentence("Behind the end no move is possible.");
        List<Supplier<LoopCaptures>> ends = List.of(
            Games::drawn, Games::drawnWithCaptures,
            () -> board(at(10, 4), at()), () -> board(at(), at(10, 4)), () -> board(at(), at()));
        int[] results = {3, 3, 1, 2, 3};
        for (int i = 0; i < results.length; i++) {
            LoopCaptures x = ends.get(i).get();
            Check.due("result", x.count(4), results[i]);
            nothingIsPossible(x);
            if (i > 1) {
                x.turn();
                Check.due("result, the other side to move", x.count(4), results[i]);
                nothingIsPossible(x);
            }
        }
    }

    private static void nothingIsPossible(LoopCaptures x) {
        Check.due("move", x.move(10, 9), -111);
        Check.due("move of none", x.move(17, 17), -111);
        Check.due("capture", x.capture(10, 4), -111);
        Check.due("reason of a move", x.reason(10, 9, false), 1);
        Check.due("reason of a capture", x.reason(4, 10, true), 1);
        Check.due("play(1)", x.play(1), NOT_POSSIBLE);
        Check.due("play(2)", x.play(2), NOT_POSSIBLE);
        Check.due("best(1)", x.best(1), NONE);
        Check.due("best(2)", x.best(2), NONE);
        Check.due("possible(0)", x.possible(0), NONE);
        Check.due("captures", x.count(5), 0);
        Check.due("quiet moves", x.count(6), 0);
        Check.due("perform()", performText(x, "e2-d2"), NOT_POSSIBLE);
        Check.due("its number", x.stopped(0), 0);
        Check.due("its reason", x.stopped(1), 1);
    }

    private static void aSettingMadeLess() {
        Check.sentence("(A setting that is made less can end it.)");
        LoopCaptures x = new LoopCaptures();
        shuffle(x, 6);
        Check.due("one more than there are", x.setLimit(7), 20);
        Check.due("it goes on", x.count(4), 0);
        Check.due("as many as there are", x.setLimit(6), 7);
        Check.due("drawn", x.count(4), 3);
        Check.due("less than there are", x.setLimit(4), 6);
        Check.due("drawn still", x.count(4), 3);
        Check.due("quiet moves stay", x.count(3), 6);
        Check.due("no move", x.move(12, 6), -111);
        Check.due("made greater", x.setLimit(7), 4);
        Check.due("it goes on again", x.count(4), 0);
        Check.due("undone", x.undo(), 3);
        Check.due("drawn again", x.count(4), 3);
    }

    // POSITIONS

    private static void theBoardAndTheSide() {
        Check.sentence("A position is the board and the side that is to move.");
        // b1 and a2 and a1 are beside each other: the board comes again behind five moves.
        LoopCaptures x = board(at(0), at(35));
        Check.due("five moves", performText(x, "a1-a2;f6-f5;a2-b1;f5-f6;b1-a1"), 5);
        Check.due("the side 2 is to move", x.count(0), 2);
        Check.due("another position", x.count(9), 1);
        Check.due("five more", performText(x, "f6-f5;a1-a2;f5-e6;a2-a1;e6-f6"), 5);
        Check.due("the side 1 is to move", x.count(0), 1);
        Check.due("the first position", x.count(9), 2);
    }

    private static void whoStandsWhere() {
        Check.sentence("A position is the board");
        LoopCaptures x = board(at(14), at(15));
        Check.due("the pieces change their points", performText(x, "c3-d2;d3-d4;d2-d3;d4-c3"), 4);
        Check.due("which is another position", x.count(9), 1);
        Check.due("they change back", performText(x, "d3-d2;c3-d4;d2-c3;d4-d3"), 4);
        Check.due("the first position", x.count(9), 2);
        LoopCaptures y = board(at(14), at(17));
        Check.due("the pieces go past each other", performText(y, "c3-d2;f3-e4;d2-e3;e4-d3"), 4);
        Check.due("which is another position too", y.count(9), 1);
        everyPointMatters();
    }

    /** A piece goes two steps and the other one comes back: only the points of one piece differ. */
    private static void everyPointMatters() {
        for (int p = 0; p < 36; p++) {
            int step = p % 6 < 3 ? 1 : -1;
            int corner = p < 18 ? 35 : 0;
            int beside = p < 18 ? 34 : 1;
            LoopCaptures x = board(at(p), at(corner));
            x.move(p, p + step);
            x.move(corner, beside);
            x.move(p + step, p + 2 * step);
            x.move(beside, corner);
            Check.due("two steps from " + p, x.count(3), 4);
            Check.due("which is another position", x.count(9), 1);
        }
    }

    private static void howOftenItWasThere() {
        Check.sentence("The game keeps how often the position of now was there since the latest capture, "
            + "1 counted for now");
        LoopCaptures x = new LoopCaptures();
        Check.due("at first", x.count(9), 1);
        int[] seen = {1, 1, 1, 2, 2, 2, 2, 3, 3, 3, 3, 4};
        int[][] steps = {{6, 12}, {24, 18}, {12, 6}, {18, 24}};
        for (int i = 0; i < seen.length; i++) {
            x.move(steps[i % 4][0], steps[i % 4][1]);
            Check.due("behind the move " + (i + 1), x.count(9), seen[i]);
        }
        x.undo();
        Check.due("behind undo()", x.count(9), 3);
        x.move(18, 12 + 1);
        Check.due("a new position", x.count(9), 1);
    }

    private static void sinceTheLatestCapture() {
        Check.sentence("a capture or setUp() forgets those before");
        LoopCaptures x = board(at(10, 0), at(4, 24));
        performText(x, "a1-a2;a5-b5;a2-a1;b5-a5");
        Check.due("ahead of the capture", x.count(9), 2);
        x.capture(10, 4);
        Check.due("behind the capture", x.count(9), 1);
        performText(x, "a5-b5;a1-a2;b5-a5;a2-a1");
        Check.due("the one behind the capture counts", x.count(9), 2);
        x.undo();
        x.undo();
        Check.due("undo() brings those before back", x.count(9), 2);
        LoopCaptures y = new LoopCaptures();
        performText(y, TO_AND_FRO);
        y.begin();
        Check.due("begin() forgets", y.count(9), 1);
        performText(y, TO_AND_FRO);
        y.keep();
        y.begin();
        y.restore();
        Check.due("restore() brings those of the snapshot back", y.count(9), 2);
    }

    private static void setUpForgets() {
        Check.sentence("setUp() forgets those before");
        LoopCaptures x = new LoopCaptures();
        performText(x, TO_AND_FRO);
        Check.due("ahead of it", x.count(9), 2);
        Check.due("setUp() that is NONE", x.setUp(0, 1), NONE);
        Check.due("forgets nothing", x.count(9), 2);
        x.setUp(0, 0);
        Check.due("behind it", x.count(9), 1);
        x.setUp(0, 1);
        Check.due("the same board again", x.count(9), 1);
        performText(x, TO_AND_FRO);
        Check.due("the one behind it counts", x.count(9), 2);
        x.setLimit(30);
        Check.due("setLimit() forgets nothing", x.count(9), 2);
        x.turn();
        x.turn();
        Check.due("turn() forgets", x.count(9), 1);
    }

    private static void theLatestSixty() {
        Check.sentence("(At most the latest 60 are looked at.)");
        LoopCaptures x = new LoopCaptures();
        x.setLimit(60);
        shuffle(x, 56);
        Check.due("57 positions, each fourth one is this", x.count(9), 15);
        performText(x, "a2-a3;a5-a4;a3-a2");
        Check.due("60 positions, each fourth one is this", x.count(9), 15);
        x.move(18, 24);
        // The position of now is one of the latest 60: the very first one is not looked at.
        Check.due("61 positions", x.count(9), 15);
        x.undo();
        Check.due("60 positions again", x.move(25, 19), 60);
        Check.due("a new one", x.count(9), 1);
    }

    private static void withinTheLatestSixty() {
        Check.sentence("(At most the latest 60 are looked at.)", "and no fewer");
        LoopCaptures x = new LoopCaptures();
        x.setLimit(60);
        Check.due("two moves", performText(x, "f2-f3;f5-f4"), 2);
        Check.due("around to the position behind them", performText(x, "a2-a3;a5-a4;a3-b3;a4-b4;b3-a2;b4-a5"), 6);
        Check.due("there behind 8", x.count(9), 2);
        x.clearText();
        typeAll(x, TO_AND_FRO);
        for (int times = 3; times <= 15; times++) {
            Check.due("four more", x.perform(), 4);
            Check.due("there again", x.count(9), times);
        }
        // The one behind two moves is the 59th, counted from now.
        Check.due("behind 60", x.count(3), 60);
    }

    private static void positionsAreNoEnd() {
        Check.sentence("The game keeps how often the position of now was there", "which does not end it");
        LoopCaptures x = new LoopCaptures();
        x.setLimit(60);
        for (int times = 2; times <= 10; times++) {
            performText(x, TO_AND_FRO);
            Check.due("there", x.count(9), times);
            Check.due("it goes on", x.count(4), 0);
        }
    }

    // LOOKING AHEAD

    private static void theWorth() {
        Check.sentence("The worth of a board for a side is its pieces less those of the other one.");
        int[][] ones = {{}, {0}, {0, 1, 2}, {0, 1}, {}};
        int[][] twos = {{}, {35}, {35}, {33, 34, 35}, {30, 31, 32, 33, 34, 35}};
        int[] worths = {0, 0, 2, -1, -6};
        for (int i = 0; i < worths.length; i++) {
            LoopCaptures x = board(ones[i], twos[i]);
            Check.due("for the side 1", x.look(0), worths[i]);
            x.turn();
            Check.due("for the side 2", x.look(0), -worths[i]);
        }
        LoopCaptures full = new LoopCaptures();
        for (int p = 0; p < 36; p++) {
            full.setUp(p, 1);
        }
        Check.due("36 pieces", full.look(0), 36);
        Check.due("36 pieces ahead", full.look(2), 36);
    }

    private static void theDepthZero() {
        Check.sentence("A look ahead of the depth 0 tells the worth for the side to move");
        // However much could be captured.
        LoopCaptures x = board(at(8), at(4, 1, 12, 18));
        Check.due("for the side 1", x.look(0), -3);
        x.turn();
        Check.due("for the side 2", x.look(0), 3);
    }

    private static List<Supplier<LoopCaptures>> boardsToLookAt() {
        List<Supplier<LoopCaptures>> boards = new ArrayList<>();
        boards.add(LoopCaptures::new);
        boards.add(Games::middle);
        boards.add(() -> board(at(8), at(4, 1, 12, 18)));
        boards.add(() -> board(at(10, 9, 30), at(16, 25, 0)));
        boards.add(() -> board(at(17), at(7)));
        boards.add(() -> board(at(0), at(6, 35)));
        boards.add(() -> board(at(7, 14, 21), at(28, 10, 4, 35)));
        boards.add(() -> board(at(10, 4), at(11)));
        return boards;
    }

    private static void theGreatestOverAllMoves() {
        Check.sentence("of the depth d it tells the greatest, over all possible moves, of minus what the look ahead "
            + "of the depth d - 1 tells behind the move");
        for (Supplier<LoopCaptures> maker : boardsToLookAt()) {
            for (int depth = 1; depth <= 2; depth++) {
                lookIsTheGreatest(maker.get(), depth);
            }
        }
    }

    private static void lookIsTheGreatest(LoopCaptures x, int depth) {
        int moves = x.count(5) + x.count(6);
        int greatest = -100;
        int first = NONE;
        for (int rank = 0; rank < moves; rank++) {
            int move = x.possible(rank);
            make(x, move);
            int worth = -x.look(depth - 1);
            x.undo();
            if (worth > greatest) {
                greatest = worth;
                first = move;
            }
        }
        Check.due("look(" + depth + ")", x.look(depth), greatest);
        Check.due("best(" + depth + "), the first of them", x.best(depth), first);
        Check.due("play(" + depth + ") makes it", x.play(depth), first);
    }

    private static void noMoveIsPossible() {
        Check.sentence("if no move is possible (the game may be over), it tells the worth at once.");
        for (int depth = 0; depth <= 2; depth++) {
            Check.due("won", board(at(10, 4), at()).look(depth), 2);
            Check.due("lost", board(at(), at(10, 4, 7)).look(depth), -3);
            Check.due("drawn", drawn().look(depth), 0);
            Check.due("no piece", board(at(), at()).look(depth), 0);
            Check.due("shut in", shutIn().look(depth), -2);
        }
    }

    private static void theEndWithinTheLook() {
        Check.sentence("if no move is possible (the game may be over), it tells the worth at once.", "behind a move");
        // The capture of the last piece ends the game.
        LoopCaptures x = board(at(10), at(4));
        Check.due("look(1)", x.look(1), 1);
        Check.due("look(2)", x.look(2), 1);
        // One quiet move is left: behind it the side 2 captures no more.
        LoopCaptures y = board(at(0), at(6, 35));
        y.setLimit(5);
        performText(y, "a1-b1;f6-f5;b1-a1;f5-f6");
        Check.due("one is left: look(2)", y.look(2), -1);
        y.setLimit(6);
        Check.due("two are left: look(2)", y.look(2), -2);
        // The side 1 shuts the last piece in: behind that no move is possible.
        LoopCaptures z = board(at(1, 6, 13), at(0));
        z.setUp(8, 1);
        Check.due("shut in by a move: look(2)", z.look(2), 3);
    }

    private static void capturesAheadOfQuietMoves() {
        Check.sentence("Possible moves are ordered: captures ahead of quiet moves");
        LoopCaptures x = board(at(0, 10), at(4, 31));
        int[] want = {1004, 1031, 1, 6, 7, 1003, 1005, 1009, 1011, 1015, 1016, 1017};
        for (int rank = 0; rank < want.length; rank++) {
            Check.due("possible(" + rank + ")", x.possible(rank), want[rank]);
        }
        Check.due("no more", x.possible(want.length), NONE);
    }

    private static void thePointFromWhichTheyGo() {
        Check.sentence("by the point from which they go");
        // The ones that were set later stand ahead.
        LoopCaptures x = board(at(17, 10), at(1));
        x.setUp(6, 1);
        int last = -1;
        for (int rank = 0; rank < x.count(5); rank++) {
            int from = x.possible(rank) / 100;
            Check.due("captures go up", from >= last ? 1 : 0, 1);
            last = from;
        }
        last = -1;
        for (int rank = x.count(5); rank < x.count(5) + x.count(6); rank++) {
            int from = x.possible(rank) / 100;
            Check.due("quiet moves go up", from >= last ? 1 : 0, 1);
            last = from;
        }
        Check.due("the first capture", x.possible(0), 601);
        Check.due("the second capture", x.possible(1), 1001);
        Check.due("the first quiet move", x.possible(x.count(5)), 600);
    }

    private static void theOneToWhich() {
        Check.sentence("then by the one to which.");
        LoopCaptures x = board(at(16), at(29, 33, 11, 2));
        int[] want = {1602, 1611, 1629, 1633, 1609, 1610, 1615, 1617, 1621, 1622, 1623};
        for (int rank = 0; rank < want.length; rank++) {
            Check.due("possible(" + rank + ")", x.possible(rank), want[rank]);
        }
    }

    private static void allPossibleMoves() {
        Check.sentence("Possible moves", "all that have no reason, and no others");
        for (Supplier<LoopCaptures> maker : boardsToLookAt()) {
            List<Integer> captures = new ArrayList<>();
            List<Integer> quiet = new ArrayList<>();
            for (int from = 0; from < 36; from++) {
                LoopCaptures x = maker.get();
                for (int to = 0; to < 36; to++) {
                    if (x.reason(from, to, true) == 0) {
                        captures.add(100 * from + to);
                    }
                    if (x.reason(from, to, false) == 0) {
                        quiet.add(100 * from + to);
                    }
                }
            }
            LoopCaptures x = maker.get();
            Check.due("captures", x.count(5), captures.size());
            Check.due("quiet moves", x.count(6), quiet.size());
            captures.addAll(quiet);
            for (int rank = 0; rank < captures.size(); rank++) {
                Check.due("possible(" + rank + ")", x.possible(rank), captures.get(rank));
            }
            Check.due("no more", x.possible(captures.size()), NONE);
        }
    }
}
