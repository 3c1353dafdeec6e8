import java.util.ArrayList;
import java.util.List;
import java.util.function.Supplier;
import java.util.function.ToIntFunction;

/** Games with which tests begin, and what is told of them. */
abstract class Games {
    static final int UNKNOWN = -101;
    static final int BAD_VALUE = -102;
    static final int FULL = -103;
    static final int NOT_POSSIBLE = -104;
    static final int NONE = -105;
    static final int[] WRONG_POINTS = {-1, 36, Integer.MIN_VALUE, Integer.MAX_VALUE};

    /** Behind these four moves the board is as it was ahead of them. */
    static final String TO_AND_FRO = "a2-a3;a5-a4;a3-a2;a4-a5";

    private static final int COUNTS = 14;
    private static final int COUNT_OF_STATES = 12;

    /** A board with nothing but these pieces, the side 1 to move. */
    static LoopCaptures board(int[] ones, int[] twos) {
        LoopCaptures x = new LoopCaptures();
        for (int p = 0; p < 36; p++) {
            x.setUp(p, 0);
        }
        for (int p : ones) {
            x.setUp(p, 1);
        }
        for (int p : twos) {
            x.setUp(p, 2);
        }
        return x;
    }

    static int[] at(int... points) {
        return points;
    }

    static void typeAll(LoopCaptures x, String text) {
        for (int i = 0; i < text.length(); i++) {
            x.type(text.charAt(i));
        }
    }

    static int performText(LoopCaptures x, String text) {
        x.clearText();
        typeAll(x, text);
        return x.perform();
    }

    static String nameOf(int point) {
        return "" + (char) ('a' + point % 6) + (char) ('1' + point / 6);
    }

    /** Makes a possible move as possible() tells it. */
    static void make(LoopCaptures x, int move) {
        if (x.point(move % 100, 0) == 0) {
            x.move(move / 100, move % 100);
        } else {
            x.capture(move / 100, move % 100);
        }
    }

    static void counts(String name, LoopCaptures x, int... want) {
        for (int i = 0; i < want.length; i++) {
            Check.due(name + ": count(" + i + ")", x.count(i), want[i]);
        }
    }

    static void wayIs(String name, LoopCaptures x, int from, int to, int... want) {
        for (int what = 0; what < want.length; what++) {
            Check.due(name + ": way(" + from + ", " + to + ", " + what + ")", x.way(from, to, what), want[what]);
        }
    }

    static void noWay(String name, LoopCaptures x, int from, int to) {
        wayIs(name, x, from, to, NONE, NONE, NONE, NONE, NONE);
    }

    /** Some moves made, a text, a snapshot, a stop, and three states in the history. */
    static LoopCaptures middle() {
        LoopCaptures x = new LoopCaptures();
        performText(x, "a2-a3;a5-a4");
        x.keep();
        performText(x, "a1-a2;a1-a2");
        x.setLimit(9);
        x.move(7, 13);
        x.clearText();
        typeAll(x, "a3-a2;a4-a5");
        return x;
    }

    /** As many quiet moves as the setting 0 tells. */
    static LoopCaptures drawn() {
        LoopCaptures x = new LoopCaptures();
        x.setLimit(4);
        performText(x, TO_AND_FRO);
        return x;
    }

    /** e2 could capture e1 and a5, and e1 could capture e2, were the game not drawn. */
    static LoopCaptures drawnWithCaptures() {
        LoopCaptures x = board(at(10, 0), at(4, 24));
        x.setLimit(4);
        performText(x, "a1-a2;a5-a4;a2-a1;a4-a5");
        return x;
    }

    /** The side that is to move has a piece that can't move; it is no end. */
    static LoopCaptures shutIn() {
        return board(at(0), at(1, 6, 7));
    }

    /** What a game tells of itself without a change, in 52 calls. */
    static List<Integer> told(LoopCaptures x) {
        List<Integer> all = new ArrayList<>();
        for (int what = 0; what < COUNTS; what++) {
            all.add(x.count(what));
        }
        for (int p = 0; p < 36; p++) {
            all.add(x.point(p, 0));
        }
        all.add(x.stopped(0));
        all.add(x.stopped(1));
        return all;
    }

    static void sameTold(String name, List<Integer> got, List<Integer> want) {
        for (int i = 0; i < want.size(); i++) {
            Check.due(name + ": told " + i, got.get(i), want.get(i));
        }
    }

    /** The games are undone, restored and performed for it, in 423 calls each. */
    static void alike(String name, LoopCaptures got, LoopCaptures want) {
        sameTold(name, told(got), told(want));
        for (int i = 1; i <= 5; i++) {
            Check.due(name + ": undo() " + i, got.undo(), want.undo());
            sameTold(name + ": behind undo() " + i, told(got), told(want));
        }
        Check.due(name + ": restore()", got.restore(), want.restore());
        sameTold(name + ": behind restore()", told(got), told(want));
        Check.due(name + ": perform()", got.perform(), want.perform());
        sameTold(name + ": behind perform()", told(got), told(want));
    }

    /** The call answers so, and the game is as one in which it was not called. */
    static void changesNothing(String name, Supplier<LoopCaptures> maker, ToIntFunction<LoopCaptures> call, int want) {
        LoopCaptures x = maker.get();
        Check.due(name, call.applyAsInt(x), want);
        alike(name, x, maker.get());
    }

    /** The call records the state that was before it, and undo() brings that back. */
    static void isAct(String name, LoopCaptures x, ToIntFunction<LoopCaptures> call, int want) {
        List<Integer> before = told(x);
        int states = before.get(COUNT_OF_STATES);
        Check.due(name, call.applyAsInt(x), want);
        Check.due(name + " is recorded", x.count(COUNT_OF_STATES), states + 1);
        Check.due(name + " is undone", x.undo(), states);
        sameTold(name + " is undone", told(x), before);
    }
}
