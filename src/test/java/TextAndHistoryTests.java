import java.util.List;
import java.util.function.Supplier;
import java.util.function.ToIntFunction;

/** The sentences of the sections "TEXTS", "HISTORY" and "ERRORS"; a test for each. */
public final class TextAndHistoryTests extends Games {
    private static final String ABOUT_80 = TO_AND_FRO + ";" + TO_AND_FRO + ";" + TO_AND_FRO + ";" + TO_AND_FRO;
    private static final String[] ALLOWED = {"abcdef", "123456", "-x", "abcdef", "123456", ";"};

    private TextAndHistoryTests() {
    }

    public static void main(String[] args) {
        eightyCharacters();
        emptyAtFirst();
        oneOrMoreMoves();
        aQuietMoveOrACapture();
        pointsByName();
        theFirstAndTheLastPoint();
        charactersAtTheirPlace();
        theFirstFault();
        faultsFarBehind();
        textsThatEndTooEarly();
        theEmptyText();
        fourStates();
        theOldestIsDropped();
        undoRemovesTheLatest();
        actsAreRecorded();
        noActsAreNotRecorded();
        whatIsRefusedIsNotRecorded();
        theSnapshotIsEmptyAtFirst();
        thereIsOneSnapshot();
        whatAStateIs();
        whatAStateIsNot();
        theOrderOfTheChecks();
        noneOnlyWithoutAnError();
        errorsChangeNothing();
        movesThatAreNotPossibleChangeNothing();
        noneChangesNothing();
        butForTheLatestStop();
        telling();
        Check.finish("TextAndHistoryTests");
    }

    // TEXTS

    private static void eightyCharacters() {
        Check.sentence("There is a text of at most 80 characters");
        LoopCaptures x = new LoopCaptures();
        for (int length = 1; length <= 80; length++) {
            Check.due("character " + length, x.type(ABOUT_80.charAt(length - 1)), length);
        }
        Check.due("character 81", x.type(';'), FULL);
        Check.due("its length", x.count(13), 80);
        Check.due("all 80 are kept", x.perform(), -280);
        Check.due("emptied", x.clearText(), 80);
        Check.due("there is room again", x.type('a'), 1);
    }

    private static void emptyAtFirst() {
        Check.sentence("empty at first.");
        LoopCaptures x = new LoopCaptures();
        Check.due("its length", x.count(13), 0);
        Check.due("performed", x.perform(), -200);
        Check.due("cleared", x.clearText(), 0);
        Check.due("the first character", x.type('a'), 1);
    }

    private static void oneOrMoreMoves() {
        Check.sentence("A text of moves is one or more moves with \";\" between two");
        for (int moves = 1; moves <= 13; moves++) {
            LoopCaptures x = new LoopCaptures();
            Check.due("moves", performText(x, ABOUT_80.substring(0, 6 * moves - 1)), moves);
            Check.due("quiet moves", x.count(3), moves);
        }
        Check.due("\";\" ahead", performText(new LoopCaptures(), ";a2-a3"), -200);
        Check.due("\";\" behind", performText(new LoopCaptures(), "a2-a3;"), -206);
        Check.due("\";\" twice", performText(new LoopCaptures(), "a2-a3;;a5-a4"), -206);
        Check.due("no \";\"", performText(new LoopCaptures(), "a2-a3a5-a4"), -205);
        Check.due("a space", performText(new LoopCaptures(), "a2-a3; a5-a4"), -206);
        Check.due("\",\"", performText(new LoopCaptures(), "a2-a3,a5-a4"), -205);
    }

    private static void aQuietMoveOrACapture() {
        Check.sentence("a point, \"-\" (a quiet move) or \"x\" (a capture), and a point");
        Check.due("a quiet move", performText(board(at(10), at(4, 35)), "e2-f2"), 1);
        Check.due("a capture", performText(board(at(10), at(4, 35)), "e2xe1"), 1);
        Check.due("a quiet move for a capture", performText(board(at(10), at(4, 35)), "e2-e1"), NOT_POSSIBLE);
        Check.due("a capture for a quiet move", performText(board(at(10), at(4, 35)), "e2xf2"), NOT_POSSIBLE);
        Check.due("\"X\"", performText(board(at(10), at(4, 35)), "e2Xe1"), -202);
    }

    private static void pointsByName() {
        Check.sentence("a point is a column as a letter from a to f and a row as a digit from 1 to 6");
        for (int p = 0; p < 36; p++) {
            int next = p % 6 == 5 ? p - 1 : p + 1;
            LoopCaptures x = board(at(p), at(p < 18 ? 35 : 0));
            Check.due("from " + nameOf(p), performText(x, nameOf(p) + "-" + nameOf(next)), 1);
            Check.due("gone from " + p, x.point(p, 0), 0);
            Check.due("come to " + next, x.point(next, 0), 1);
        }
    }

    private static void theFirstAndTheLastPoint() {
        Check.sentence("(\"a1\" is the point 0, \"f6\" the point 35).");
        LoopCaptures x = board(at(0), at(35));
        Check.due("from the corners", performText(x, "a1-b1;f6-f5"), 2);
        Check.due("the point 0", x.point(0, 0), 0);
        Check.due("the point 35", x.point(35, 0), 0);
        Check.due("back to the corners", performText(x, "b1-a1;f5-f6"), 2);
        Check.due("the point 0 again", x.point(0, 0), 1);
        Check.due("the point 35 again", x.point(35, 0), 2);
    }

    private static void charactersAtTheirPlace() {
        Check.sentence("the first character that is not allowed at its place");
        String ahead = "a2-a3";
        for (int place = 0; place < 6; place++) {
            for (int sign = 0; sign < 600; sign++) {
                character(ahead.substring(0, place), (char) sign, ALLOWED[place].indexOf(sign) >= 0);
            }
            int[] far = {0xff41, 0xff11, 0x0431, 0x6161, 0x8061, 0xff2d, 0x2d00, 0xd800, 0xffff};
            for (int sign : far) {
                character(ahead.substring(0, place), (char) sign, false);
            }
        }
    }

    private static void character(String ahead, char sign, boolean allowed) {
        LoopCaptures x = new LoopCaptures();
        typeAll(x, ahead);
        x.type(sign);
        int place = ahead.length();
        int got = x.perform();
        if (place == 4 && allowed) {
            Check.due("a whole move with " + (int) sign, got <= -200 ? 1 : 0, 0);
        } else {
            Check.due((int) sign + " at " + place, got, allowed ? -201 - place : -200 - place);
        }
    }

    private static void theFirstFault() {
        Check.sentence("The fault of the text is the index, from 0, of the first character that is not allowed");
        Check.due("two faults", performText(new LoopCaptures(), "a2+a9"), -202);
        Check.due("two faults in two moves", performText(new LoopCaptures(), "a2-a7;g1-a1"), -204);
        Check.due("all faults", performText(new LoopCaptures(), "?????"), -200);
        Check.due("a fault in a text that ends too early", performText(new LoopCaptures(), "a2-h"), -203);
        Check.due("a fault behind a move that is not possible", performText(new LoopCaptures(), "a1-a1;h"), -206);
    }

    private static void faultsFarBehind() {
        Check.sentence("The fault of the text is the index, from 0", "up to 79");
        for (int index = 0; index < 80; index++) {
            LoopCaptures x = new LoopCaptures();
            String text = ABOUT_80.substring(0, index) + "?" + ABOUT_80.substring(index + 1, 80);
            Check.due("at " + index, performText(x, text), -200 - index);
            Check.due("nothing is made", x.count(7), 0);
        }
    }

    private static void textsThatEndTooEarly() {
        Check.sentence("or the length of the text if it ends too early");
        for (int length = 1; length <= 80; length++) {
            LoopCaptures x = new LoopCaptures();
            int want = length % 6 == 5 ? (length + 1) / 6 : -200 - length;
            Check.due("of the length " + length, performText(x, ABOUT_80.substring(0, length)), want);
        }
    }

    private static void theEmptyText() {
        Check.sentence("(the empty text does).");
        LoopCaptures x = middle();
        x.clearText();
        Check.due("emptied", x.perform(), -200);
        Check.due("behind the end", drawnWithoutText().perform(), -200);
    }

    private static LoopCaptures drawnWithoutText() {
        LoopCaptures x = drawn();
        x.clearText();
        return x;
    }

    // HISTORY

    private static void fourStates() {
        Check.sentence("A history of at most 4 states is kept");
        LoopCaptures x = new LoopCaptures();
        int[] states = {1, 2, 3, 4, 4, 4, 4, 4, 4};
        for (int i = 0; i < states.length; i++) {
            x.turn();
            Check.due("states behind " + (i + 1), x.count(12), states[i]);
        }
    }

    private static void theOldestIsDropped() {
        Check.sentence("when one more is recorded, the oldest one is dropped");
        for (int more = 1; more <= 6; more++) {
            LoopCaptures x = new LoopCaptures();
            for (int p = 0; p < 4 + more; p++) {
                x.setUp(p, 0);
            }
            for (int left = 3; left >= 0; left--) {
                Check.due("undo()", x.undo(), left);
                Check.due("pieces", x.count(1), 12 - more - left);
            }
            Check.due("no more", x.undo(), NONE);
            Check.due("the oldest that is kept", x.count(1), 12 - more);
        }
    }

    private static void undoRemovesTheLatest() {
        Check.sentence("undo() removes and restores the latest one.");
        LoopCaptures x = new LoopCaptures();
        x.move(6, 12);
        x.setLimit(30);
        Check.due("undo()", x.undo(), 1);
        Check.due("the setting", x.count(10), 20);
        Check.due("the move stands", x.point(12, 0), 1);
        x.turn();
        Check.due("undo() of what came in its place", x.undo(), 1);
        Check.due("the side", x.count(0), 2);
        Check.due("undo() of the move", x.undo(), 0);
        Check.due("the board", x.point(12, 0), 0);
        Check.due("undo() of nothing", x.undo(), NONE);
    }

    private static void actsAreRecorded() {
        Check.sentence("Each call of a method that is described as an act, and returns no error and not NONE, "
            + "records the state that was before it.");
        isAct("move", new LoopCaptures(), x -> x.move(6, 12), 1);
        isAct("move", middle(), x -> x.move(25, 19), 4);
        isAct("capture", withACapture(), x -> x.capture(10, 4), 1);
        isAct("capture that wins", withTheLastCapture(), x -> x.capture(10, 4), 0);
        isAct("play(1)", withACapture(), x -> x.play(1), 1004);
        isAct("play(2)", middle(), x -> x.play(2), middle().best(2));
        isAct("setUp", middle(), x -> x.setUp(0, 0), 1);
        isAct("setUp of a piece", middle(), x -> x.setUp(20, 2), 0);
        isAct("turn", middle(), LoopCaptures::turn, 1);
        isAct("turn at first", new LoopCaptures(), LoopCaptures::turn, 2);
        isAct("begin", middle(), LoopCaptures::begin, 24);
        isAct("begin at the beginning", new LoopCaptures(), LoopCaptures::begin, 24);
        isAct("setLimit", middle(), x -> x.setLimit(60), 9);
        isAct("perform", middleToPerform(), LoopCaptures::perform, 2);
        isAct("restore", middle(), LoopCaptures::restore, 24);
        isAct("restore of the same", keptAtFirst(), LoopCaptures::restore, 24);
    }

    /** e2 can capture e1; there is room for one more state in the history. */
    private static LoopCaptures withACapture() {
        LoopCaptures x = board(at(10), at(4, 24, 30));
        x.undo();
        return x;
    }

    private static LoopCaptures withTheLastCapture() {
        LoopCaptures x = board(at(10), at(4, 24));
        x.undo();
        return x;
    }

    /** The text is possible as it is. */
    private static LoopCaptures middleToPerform() {
        LoopCaptures x = middle();
        x.undo();
        return x;
    }

    private static LoopCaptures keptAtFirst() {
        LoopCaptures x = new LoopCaptures();
        x.keep();
        return x;
    }

    private static void noActsAreNotRecorded() {
        Check.sentence("Each call of a method that is described as an act", "and of no other");
        LoopCaptures x = middle();
        int[] told = {
            x.keep(), x.type('a'), x.clearText(), x.stopped(0), x.point(0, 1), x.way(0, 35, 0), x.circuit(0, 0),
            x.reason(6, 12, false), x.possible(0), x.look(2), x.best(2), x.count(5)
        };
        Check.due("states behind " + told.length, x.count(12), 3);
        Check.due("undo()", x.undo(), 2);
        Check.due("the move", x.count(3), 2);
    }

    private static void whatIsRefusedIsNotRecorded() {
        Check.sentence("and returns no error and not NONE, records");
        LoopCaptures x = middle();
        int[] refused = {
            x.move(36, 0), x.move(0, 0), x.capture(-1, 0), x.capture(25, 1), x.play(0), x.play(3), x.setUp(36, 0),
            x.setUp(0, 3), x.setUp(6, 0), x.setLimit(3), x.setLimit(61), x.setLimit(9), x.perform()
        };
        for (int i = 0; i < refused.length; i++) {
            Check.due("refused " + i, refused[i] < -100 ? 1 : 0, 1);
        }
        Check.due("states", x.count(12), 3);
        LoopCaptures y = new LoopCaptures();
        Check.due("restore() of nothing", y.restore(), NONE);
        Check.due("no state", y.count(12), 0);
        LoopCaptures z = drawn();
        Check.due("play() that is not possible", z.play(1), NOT_POSSIBLE);
        Check.due("two states", z.count(12), 2);
    }

    private static void theSnapshotIsEmptyAtFirst() {
        Check.sentence("There is one snapshot, empty at first.");
        LoopCaptures x = new LoopCaptures();
        Check.due("at first", x.restore(), NONE);
        x.move(6, 12);
        Check.due("behind an act", x.restore(), NONE);
        x.undo();
        x.begin();
        Check.due("behind undo() and begin()", x.restore(), NONE);
        Check.due("keep()", x.keep(), 24);
        Check.due("behind keep()", x.restore(), 24);
    }

    private static void thereIsOneSnapshot() {
        Check.sentence("There is one snapshot");
        LoopCaptures x = new LoopCaptures();
        x.keep();
        x.setUp(0, 0);
        x.keep();
        x.setUp(1, 0);
        Check.due("the later one", x.restore(), 23);
        Check.due("it stays", x.restore(), 23);
        x.undo();
        x.undo();
        x.undo();
        x.undo();
        Check.due("undo() leaves it", x.restore(), 23);
        x.begin();
        Check.due("begin() leaves it", x.restore(), 23);
    }

    private static void whatAStateIs() {
        Check.sentence("A state is everything");
        LoopCaptures x = new LoopCaptures();
        x.setLimit(9);
        performText(x, TO_AND_FRO);
        x.setUp(35, 0);
        Check.due("a state", performText(x, "a2-a3;a5-a4;a3-a2;a4-a5;a2-a3"), 5);
        int[] want = {2, 12, 11, 5, 0, 0, x.count(6), 9, 0, 2, 9};
        counts("as it is", x, want);
        x.keep();
        x.begin();
        x.setLimit(60);
        x.restore();
        counts("restored", x, want);
        x.begin();
        x.undo();
        counts("undone", x, want);
        LoopCaptures y = board(at(10), at(4, 24));
        y.capture(10, 4);
        y.keep();
        y.begin();
        Check.due("no captures", y.count(8), 0);
        y.restore();
        Check.due("captures", y.count(8), 1);
        Check.due("moves", y.count(7), 1);
    }

    private static void whatAStateIsNot() {
        Check.sentence("everything but the text, the history, the snapshot and the latest stop.");
        LoopCaptures x = new LoopCaptures();
        x.keep();
        x.move(6, 12);
        typeAll(x, "a3-a9");
        x.undo();
        Check.due("the text behind undo()", x.count(13), 5);
        x.move(6, 12);
        x.move(24, 18);
        x.restore();
        Check.due("the text behind restore()", x.count(13), 5);
        Check.due("the history behind restore()", x.count(12), 3);
        x.turn();
        performText(x, "a5-a4;a5-a4");
        Check.due("a stop", x.stopped(0), 1);
        x.undo();
        Check.due("the stop behind undo()", x.stopped(0), 1);
        x.restore();
        Check.due("the stop behind restore()", x.stopped(1), 2);
        x.setUp(0, 0);
        x.keep();
        x.undo();
        Check.due("the board behind undo()", x.count(1), 12);
        Check.due("the snapshot behind undo()", x.restore(), 23);
    }

    // ERRORS

    private static void theOrderOfTheChecks() {
        Check.sentence("Where several errors can apply, the order of the @return line is the order of the checks.");
        LoopCaptures over = drawn();
        for (int wrong : WRONG_POINTS) {
            Check.due("move from no point behind the end", over.move(wrong, 0), UNKNOWN);
            Check.due("move to no point behind the end", over.move(0, wrong), UNKNOWN);
            Check.due("capture from no point behind the end", over.capture(wrong, 0), UNKNOWN);
            Check.due("capture to no point behind the end", over.capture(0, wrong), UNKNOWN);
            Check.due("reason from no point behind the end", over.reason(wrong, 0, true), UNKNOWN);
            Check.due("reason to no point behind the end", over.reason(0, wrong, false), UNKNOWN);
            Check.due("setUp of no point and no side", over.setUp(wrong, 3), UNKNOWN);
            Check.due("no point and nothing to tell", over.point(wrong, 5), UNKNOWN);
            Check.due("way from no point and nothing to tell", over.way(wrong, 0, 5), UNKNOWN);
            Check.due("way to no point and nothing to tell", over.way(0, wrong, -1), UNKNOWN);
            Check.due("way from an empty point to none", over.way(17, wrong, 0), UNKNOWN);
        }
        Check.due("play(0) where none is possible", over.play(0), BAD_VALUE);
        Check.due("play(3) where none is possible", over.play(3), BAD_VALUE);
        Check.due("a fault behind a move that is not possible", performText(over, "a2-a3;a"), -207);
        Check.due("which is no stop", over.stopped(0), NONE);
    }

    private static void noneOnlyWithoutAnError() {
        Check.sentence("NONE is no error; it is returned only if no error applies.");
        LoopCaptures over = drawn();
        Check.due("stopped(2), none yet", over.stopped(2), BAD_VALUE);
        Check.due("stopped(-1), none yet", over.stopped(-1), BAD_VALUE);
        Check.due("best(0) where none is possible", over.best(0), BAD_VALUE);
        Check.due("best(3) where none is possible", over.best(3), BAD_VALUE);
        Check.due("possible(-1) where none is possible", over.possible(-1), BAD_VALUE);
        Check.due("way(17, 18, 5) of no pieces", over.way(17, 18, 5), BAD_VALUE);
        Check.due("way(0, 1, -1) of one side", over.way(0, 1, -1), BAD_VALUE);
        Check.due("setLimit(3)", over.setLimit(3), BAD_VALUE);
        Check.due("setUp(17, -1)", over.setUp(17, -1), BAD_VALUE);
    }

    private static void errorsChangeNothing() {
        Check.sentence("A call that returns an error or NONE changes nothing");
        Supplier<LoopCaptures> m = Games::middle;
        changesNothing("move(-1, 0)", m, x -> x.move(-1, 0), UNKNOWN);
        changesNothing("move(25, 36)", m, x -> x.move(25, 36), UNKNOWN);
        changesNothing("capture(36, 0)", m, x -> x.capture(36, 0), UNKNOWN);
        changesNothing("capture(25, -1)", m, x -> x.capture(25, -1), UNKNOWN);
        changesNothing("play(0)", m, x -> x.play(0), BAD_VALUE);
        changesNothing("play(3)", m, x -> x.play(3), BAD_VALUE);
        changesNothing("play(1) behind the end", Games::drawn, x -> x.play(1), NOT_POSSIBLE);
        changesNothing("play(2) of a side that is shut in", Games::shutIn, x -> x.play(2), NOT_POSSIBLE);
        changesNothing("setUp(36, 0)", m, x -> x.setUp(36, 0), UNKNOWN);
        changesNothing("setUp(0, 3)", m, x -> x.setUp(0, 3), BAD_VALUE);
        changesNothing("setUp(0, -1)", m, x -> x.setUp(0, -1), BAD_VALUE);
        changesNothing("setLimit(3)", m, x -> x.setLimit(3), BAD_VALUE);
        changesNothing("setLimit(61)", m, x -> x.setLimit(61), BAD_VALUE);
        changesNothing("type('?')", TextAndHistoryTests::fullText, x -> x.type('?'), FULL);
        changesNothing("perform() of a fault", TextAndHistoryTests::withFault, LoopCaptures::perform, -213);
    }

    private static void movesThatAreNotPossibleChangeNothing() {
        Check.sentence("A call that returns an error or NONE changes nothing", "a move that is not possible");
        Supplier<LoopCaptures> m = Games::middle;
        Supplier<LoopCaptures> end = Games::drawn;
        changesNothing("move, 1", end, x -> x.move(6, 12), -111);
        changesNothing("move, 2", m, x -> x.move(8, 14), -112);
        changesNothing("move, 3", m, x -> x.move(25, 26), -113);
        changesNothing("move, 4", m, x -> x.move(25, 13), -114);
        changesNothing("capture, 1", end, x -> x.capture(6, 24), -111);
        changesNothing("capture, 2", m, x -> x.capture(8, 24), -112);
        changesNothing("capture, 3", m, x -> x.capture(25, 25), -113);
        changesNothing("capture, 4", m, x -> x.capture(25, 13), -114);
    }

    private static void noneChangesNothing() {
        Check.sentence("or NONE changes nothing");
        Supplier<LoopCaptures> m = Games::middle;
        changesNothing("setUp(0, 1)", TextAndHistoryTests::seenTwice, x -> x.setUp(0, 1), NONE);
        changesNothing("setUp(17, 0)", m, x -> x.setUp(17, 0), NONE);
        changesNothing("setUp(35, 2)", m, x -> x.setUp(35, 2), NONE);
        changesNothing("setLimit(9)", m, x -> x.setLimit(9), NONE);
        changesNothing("stopped(0)", LoopCaptures::new, x -> x.stopped(0), NONE);
        changesNothing("undo()", TextAndHistoryTests::withoutHistory, LoopCaptures::undo, NONE);
        changesNothing("restore()", TextAndHistoryTests::seenTwice, LoopCaptures::restore, NONE);
        changesNothing("way(0, 35, 0)", m, x -> x.way(0, 35, 0), NONE);
        changesNothing("possible(99)", m, x -> x.possible(99), NONE);
        changesNothing("best(2)", Games::drawn, x -> x.best(2), NONE);
    }

    private static LoopCaptures fullText() {
        LoopCaptures x = new LoopCaptures();
        typeAll(x, ABOUT_80.substring(0, 80));
        return x;
    }

    private static LoopCaptures withFault() {
        LoopCaptures x = middle();
        x.clearText();
        typeAll(x, "d5-d4;d2-d3;d9-d4");
        return x;
    }

    private static LoopCaptures seenTwice() {
        LoopCaptures x = new LoopCaptures();
        performText(x, TO_AND_FRO);
        return x;
    }

    private static LoopCaptures withoutHistory() {
        LoopCaptures x = middle();
        for (int i = 0; i < 3; i++) {
            x.undo();
        }
        return x;
    }

    private static void butForTheLatestStop() {
        Check.sentence("(but for the latest stop of perform())");
        LoopCaptures x = middle();
        Check.due("the stop before", x.stopped(0), 1);
        x.clearText();
        typeAll(x, "b5-b4;a3-a2;b4-b4");
        Check.due("stopped", x.perform(), NOT_POSSIBLE);
        Check.due("its number", x.stopped(0), 2);
        Check.due("its reason", x.stopped(1), 3);
        // The stop is made as it was, so that all else can be compared.
        changesNothing("perform()", TextAndHistoryTests::withTheSameStop, LoopCaptures::perform, NOT_POSSIBLE);
        changesNothing("perform() behind the end", TextAndHistoryTests::stoppedBehindTheEnd,
            LoopCaptures::perform, NOT_POSSIBLE);
    }

    /** The latest stop is of the move 1, for the reason 2, as the one of the text will be. */
    private static LoopCaptures withTheSameStop() {
        LoopCaptures x = middle();
        x.clearText();
        typeAll(x, "b5-b4;b5-b4");
        return x;
    }

    private static LoopCaptures stoppedBehindTheEnd() {
        LoopCaptures x = drawn();
        performText(x, "a2-a3");
        return x;
    }

    private static void telling() {
        Check.sentence("---- what is told.", "it changes nothing");
        List<ToIntFunction<LoopCaptures>> calls = List.of(
            x -> x.point(25, 1), x -> x.point(25, 2), x -> x.point(25, 3), x -> x.point(25, 4),
            x -> x.way(25, 13, 0), x -> x.circuit(1, 23), x -> x.reason(25, 19, false), x -> x.reason(25, 13, true),
            x -> x.possible(0), x -> x.possible(15), x -> x.look(1), x -> x.look(2), x -> x.best(1), x -> x.best(2),
            x -> x.count(5), x -> x.count(9), x -> x.count(11), x -> x.stopped(1));
        for (int i = 0; i < calls.size(); i++) {
            changesNothing("told " + i, Games::middle, calls.get(i), calls.get(i).applyAsInt(middle()));
        }
    }
}
