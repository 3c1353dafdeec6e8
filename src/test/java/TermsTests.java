/** The sentences of the sections ahead of "THE END": the board, circuits and moves; a test for each. */
public final class TermsTests extends Games {
    private static final int[][] CIRCUITS = {
        {6, 7, 8, 9, 10, 11, 4, 10, 16, 22, 28, 34, 29, 28, 27, 26, 25, 24, 31, 25, 19, 13, 7, 1},
        {12, 13, 14, 15, 16, 17, 3, 9, 15, 21, 27, 33, 23, 22, 21, 20, 19, 18, 32, 26, 20, 14, 8, 2}
    };

    private TermsTests() {
    }

    public static void main(String[] args) {
        anObjectForManyCalls();
        pointsByRows();
        whatStandsAtAPoint();
        theBoardAtFirst();
        twoCircuits();
        theOrderOfACircuit();
        twentyFourPlaces();
        twoPlacesOfAPoint();
        loopsBehindPlaces();
        noLoopElsewhere();
        backToTheBeginning();
        quietMovesBeside();
        quietMovesToEmptyPoints();
        fromAnyPlaceForwardsOrBackwards();
        theFirstPlaceWithAPiece();
        aPieceAheadOfTheLoop();
        theOwnPointAsEmpty();
        thePieceGoesThere();
        piecesOfTheOwnSide();
        withoutALoop();
        backToThePlace();
        almostBackToThePlace();
        theFewestLoops();
        theFewestPlaces();
        theFirstByTheCircuit();
        theFirstByThePlace();
        forwardsAheadOfBackwards();
        theFirstReason();
        noSuchQuietMove();
        noSuchCapture();
        Check.finish("TermsTests");
    }

    private static void anObjectForManyCalls() {
        Check.sentence("An object is used for at most 512 calls after it has been made");
        LoopCaptures x = new LoopCaptures();
        for (int call = 1; call <= 512; call++) {
            Check.due("call " + call, x.turn(), call % 2 == 1 ? 2 : 1);
        }
        LoopCaptures y = new LoopCaptures();
        for (int round = 1; round <= 128; round++) {
            Check.due("play(1), round " + round, y.play(1), 612);
            Check.due("count(12), round " + round, y.count(12), 1);
            Check.due("undo(), round " + round, y.undo(), 0);
            Check.due("best(2), round " + round, y.best(2), 612);
        }
    }

    // THE BOARD

    private static void pointsByRows() {
        Check.sentence("There are 36 points, numbered by rows from 0 to 35: "
            + "the point p is in the column p % 6 and the row p / 6.");
        for (int p = 0; p < 36; p++) {
            LoopCaptures x = board(at(p), at(p == 35 ? 0 : 35));
            int inRow = p % 6 == 5 ? p - 1 : p + 1;
            int inColumn = p / 6 == 5 ? p - 6 : p + 6;
            Check.due("in the row of " + p, x.reason(p, inRow, false), inRow == 35 ? 4 : 0);
            Check.due("in the column of " + p, x.reason(p, inColumn, false), inColumn == 35 ? 4 : 0);
            if (p % 6 == 5 && p < 30) {
                Check.due("not in the row of " + p, x.reason(p, p + 1, false), 4);
            }
        }
        LoopCaptures x = new LoopCaptures();
        Check.due("the first", x.point(0, 0), 1);
        Check.due("the last", x.point(35, 0), 2);
        Check.due("ahead of the first", x.point(-1, 0), UNKNOWN);
        Check.due("behind the last", x.point(36, 0), UNKNOWN);
    }

    private static void whatStandsAtAPoint() {
        Check.sentence("A point is empty, or has a piece of the side 1 or the side 2.");
        LoopCaptures x = new LoopCaptures();
        for (int p = 0; p < 36; p++) {
            x.setUp(p, 0);
            Check.due("empty: " + p, x.point(p, 0), 0);
            x.setUp(p, 1);
            Check.due("the side 1: " + p, x.point(p, 0), 1);
            x.setUp(p, 2);
            Check.due("the side 2: " + p, x.point(p, 0), 2);
        }
        Check.due("no side 3", x.setUp(0, 3), BAD_VALUE);
        Check.due("no side -1", x.setUp(0, -1), BAD_VALUE);
    }

    private static void theBoardAtFirst() {
        Check.sentence("At first the side 1 has the points 0 to 11, the side 2 the points 24 to 35, "
            + "and the side 1 is to move.");
        LoopCaptures x = new LoopCaptures();
        for (int p = 0; p < 36; p++) {
            Check.due("point " + p, x.point(p, 0), p <= 11 ? 1 : p >= 24 ? 2 : 0);
        }
        Check.due("to move", x.count(0), 1);
        Check.due("pieces of the side 1", x.count(1), 12);
        Check.due("pieces of the side 2", x.count(2), 12);
        Check.due("of the side 2 nothing moves", x.reason(24, 18, false), 2);
    }

    // CIRCUITS

    private static void twoCircuits() {
        Check.sentence("There are two circuits, 0 and 1.");
        LoopCaptures x = new LoopCaptures();
        Check.due("the circuit 0", x.circuit(0, 0), 6);
        Check.due("the circuit 1", x.circuit(1, 0), 12);
        Check.due("no circuit -1", x.circuit(-1, 0), UNKNOWN);
        Check.due("no circuit 2", x.circuit(2, 0), UNKNOWN);
        Check.due("no circuit -1, though it has the place 24", x.circuit(-1, 24), UNKNOWN);
    }

    private static void theOrderOfACircuit() {
        Check.sentence("With a = 1 + the circuit and b = 5 - a, a circuit passes, in this order: "
            + "the row a from the column 0 to 5, (a loop), the column b from the row 0 to 5, (a loop), "
            + "the row b from the column 5 to 0, (a loop), the column a from the row 5 to 0");
        LoopCaptures x = new LoopCaptures();
        for (int circuit = 0; circuit < 2; circuit++) {
            int a = 1 + circuit;
            int b = 5 - a;
            for (int i = 0; i <= 5; i++) {
                Check.due("the row a: " + i, x.circuit(circuit, i), 6 * a + i);
                Check.due("the column b: " + i, x.circuit(circuit, 6 + i), 6 * i + b);
                Check.due("the row b: " + i, x.circuit(circuit, 12 + i), 6 * b + 5 - i);
                Check.due("the column a: " + i, x.circuit(circuit, 18 + i), 6 * (5 - i) + a);
            }
        }
    }

    private static void twentyFourPlaces() {
        Check.sentence("So it has 24 places, numbered from 0 in this order");
        LoopCaptures x = new LoopCaptures();
        for (int circuit = 0; circuit < 2; circuit++) {
            for (int place = 0; place < 24; place++) {
                Check.due("the place " + place, x.circuit(circuit, place), CIRCUITS[circuit][place]);
            }
            Check.due("ahead of the first", x.circuit(circuit, -1), UNKNOWN);
            Check.due("behind the last", x.circuit(circuit, 24), UNKNOWN);
        }
    }

    private static void twoPlacesOfAPoint() {
        Check.sentence("a point can be at two places of it.");
        LoopCaptures x = new LoopCaptures();
        int[][] twice = {{7, 10, 25, 28}, {14, 15, 20, 21}};
        for (int circuit = 0; circuit < 2; circuit++) {
            int[] times = new int[36];
            for (int place = 0; place < 24; place++) {
                int p = x.circuit(circuit, place);
                times[p >= 0 && p < 36 ? p : 0]++;
            }
            for (int p : twice[circuit]) {
                Check.due("the places of " + p, times[p], 2);
            }
        }
        // c3 is at the places 2 and 21 of the circuit 1: from each a capture goes.
        wayIs("from its place 2, backwards", board(at(14), at(2)), 14, 2, 1, 3, 1, 2, 0);
        wayIs("from its place 21, forwards", board(at(14), at(12)), 14, 12, 1, 3, 1, 21, 1);
    }

    private static void loopsBehindPlaces() {
        Check.sentence("The loops are behind the places 5, 11, 17 and 23.");
        for (int circuit = 0; circuit < 2; circuit++) {
            for (int place = 5; place <= 23; place += 6) {
                int next = (place + 1) % 24;
                int ahead = CIRCUITS[circuit][place];
                int behind = CIRCUITS[circuit][next];
                LoopCaptures x = board(at(ahead), at(behind));
                wayIs("over it forwards", x, ahead, behind, 1, 1, circuit, place, 1);
                wayIs("over it backwards", x, behind, ahead, 1, 1, circuit, next, 0);
                Check.due("captured", x.capture(ahead, behind), 0);
                LoopCaptures y = board(at(behind), at(ahead, 35));
                Check.due("captured backwards", y.capture(behind, ahead), 1);
            }
        }
    }

    private static void noLoopElsewhere() {
        Check.sentence("The loops are behind the places 5, 11, 17 and 23.", "and nowhere else");
        for (int circuit = 0; circuit < 2; circuit++) {
            for (int place = 0; place < 24; place++) {
                if (place % 6 == 5) {
                    continue;
                }
                int one = CIRCUITS[circuit][place];
                int other = CIRCUITS[circuit][place + 1];
                LoopCaptures x = board(at(one), at(other));
                Check.due("forwards from the place " + place, x.way(one, other, 1) == 1 ? 1 : 0, 0);
                Check.due("backwards to the place " + place, x.way(other, one, 1) == 1 ? 1 : 0, 0);
            }
        }
    }

    private static void backToTheBeginning() {
        Check.sentence("comes back to its beginning.");
        // From b1, the place 23, over the loop to a2, the place 0, and on; and the other way.
        wayIs("forwards to the place 0", board(at(1), at(6)), 1, 6, 1, 1, 0, 23, 1);
        wayIs("forwards behind the place 0", board(at(1), at(8)), 1, 8, 1, 3, 0, 23, 1);
        wayIs("backwards to the place 23", board(at(6), at(1)), 6, 1, 1, 1, 0, 0, 0);
        wayIs("backwards ahead of the place 23", board(at(8), at(19)), 8, 19, 1, 6, 0, 2, 0);
        wayIs("forwards in the circuit 1", board(at(2), at(17)), 2, 17, 1, 6, 1, 23, 1);
        wayIs("backwards in the circuit 1", board(at(12), at(32)), 12, 32, 1, 6, 1, 0, 0);
    }

    // MOVES

    private static boolean areBeside(int p, int q) {
        int rows = Math.abs(p / 6 - q / 6);
        int columns = Math.abs(p % 6 - q % 6);
        return Math.max(rows, columns) == 1;
    }

    private static void quietMovesBeside() {
        Check.sentence("A quiet move: a piece goes to an empty point that is beside its own, straight or slanting.");
        for (int from = 0; from < 36; from++) {
            int far = from < 18 ? 35 : 0;
            LoopCaptures x = board(at(from), at(far));
            for (int to = 0; to < 36; to++) {
                int why = to == from ? 3 : to != far && areBeside(from, to) ? 0 : 4;
                Check.due("from " + from + " to " + to, x.reason(from, to, false), why);
            }
        }
    }

    private static void quietMovesToEmptyPoints() {
        Check.sentence("a piece goes to an empty point");
        LoopCaptures x = board(at(14, 8), at(15, 20));
        Check.due("to an own piece", x.move(14, 8), -113);
        Check.due("to another piece", x.move(14, 15), -114);
        Check.due("to another piece below", x.move(14, 20), -114);
        x.setUp(15, 0);
        Check.due("to the point that is empty now", x.move(14, 15), 1);
        Check.due("its point is empty then", x.point(14, 0), 0);
        Check.due("the piece is there", x.point(15, 0), 1);
    }

    private static void fromAnyPlaceForwardsOrBackwards() {
        Check.sentence("a piece goes along a circuit from any place of its point, forwards or backwards");
        // e2 is at the places 4 and 7 of the circuit 0.
        wayIs("from the row, forwards", board(at(10), at(4)), 10, 4, 1, 2, 0, 4, 1);
        wayIs("from the row, backwards", board(at(10), at(1)), 10, 1, 1, 5, 0, 4, 0);
        wayIs("from the column, forwards", board(at(10), at(29)), 10, 29, 1, 5, 0, 7, 1);
        wayIs("from the column, backwards", board(at(10), at(11)), 10, 11, 1, 2, 0, 7, 0);
        // c2 is at the place 2 of the circuit 0 and the place 22 of the circuit 1.
        LoopCaptures x = board(at(8), at(4, 1, 12, 18));
        wayIs("the circuit 0, forwards", x, 8, 4, 1, 4, 0, 2, 1);
        wayIs("the circuit 0, backwards", x, 8, 1, 1, 3, 0, 2, 0);
        wayIs("the circuit 1, forwards", x, 8, 12, 1, 2, 1, 22, 1);
        wayIs("the circuit 1, backwards", x, 8, 18, 1, 5, 1, 22, 0);
        Check.due("all four", x.point(8, 3), 4);
        Check.due("each is possible", x.count(5), 4);
    }

    /** c2 can go to the right only, over f2 and the loop to e1, then down the column. */
    private static LoopCaptures toTheRightOnly() {
        return board(at(8, 2, 14, 6), at(4, 22));
    }

    private static void theFirstPlaceWithAPiece() {
        Check.sentence("it stops at the first place that has a piece");
        LoopCaptures x = toTheRightOnly();
        Check.due("the first", x.way(8, 4, 0), 1);
        noWay("the one behind it", x, 8, 22);
        Check.due("one can be captured", x.point(8, 3), 1);
        Check.due("capture of the one behind it", x.capture(8, 22), -114);
        x.setUp(4, 1);
        noWay("behind an own piece", x, 8, 22);
        Check.due("none can be captured", x.point(8, 3), 0);
        x.setUp(4, 0);
        wayIs("with a free way", x, 8, 22, 1, 7, 0, 2, 1);
    }

    private static void aPieceAheadOfTheLoop() {
        Check.sentence("it stops at the first place that has a piece", "ahead of the loop too");
        int[] between = {9, 10, 11};
        for (int p : between) {
            LoopCaptures x = toTheRightOnly();
            x.setUp(p, 1);
            noWay("an own piece at " + p, x, 8, 4);
            x.setUp(p, 2);
            noWay("another piece at " + p, x, 8, 4);
            noWay("which is not captured itself", x, 8, p);
            x.setUp(p, 0);
            Check.due("with a free way", x.way(8, 4, 0), 1);
        }
    }

    private static void theOwnPointAsEmpty() {
        Check.sentence("(its own point counts as empty as long as it goes)");
        // To the left over a2 and the loop to b1, then down over its own point b2 to b3.
        wayIs("from b2 to b3", board(at(7), at(13)), 7, 13, 1, 4, 0, 1, 0);
        // To the right over f2 and the loop to e1, then down over its own point e2 to e3.
        LoopCaptures x = board(at(10, 9), at(16));
        wayIs("from e2 to e3", x, 10, 16, 1, 4, 0, 4, 1);
        Check.due("captured", x.capture(10, 16), 0);
        // Up over c1 and the loop to a3, then to the right over its own point c3 to d3.
        wayIs("from c3 to d3", board(at(14), at(15)), 14, 15, 1, 6, 1, 21, 1);
        // To the right over f4 and the loop to d6, then up over its own point d4 to d3.
        wayIs("from d4 to d3", board(at(21), at(15)), 21, 15, 1, 6, 1, 14, 0);
    }

    private static void thePieceGoesThere() {
        Check.sentence("If that is a piece of the other side, and it went over a loop at least, "
            + "it is captured: the piece goes there.");
        LoopCaptures x = board(at(10), at(4, 35));
        Check.due("captured", x.capture(10, 4), 1);
        Check.due("gone", x.point(10, 0), 0);
        Check.due("come", x.point(4, 0), 1);
        Check.due("pieces of the side 1", x.count(1), 1);
        Check.due("pieces of the side 2", x.count(2), 1);
        // Over two, three and four loops it is captured as well.
        Check.due("over two loops", board(at(6), at(29)).capture(6, 29), 0);
        LoopCaptures three = board(at(8, 9, 12), at(16));
        Check.due("three loops", three.way(8, 16, 0), 3);
        Check.due("over three loops", three.capture(8, 16), 0);
        LoopCaptures four = board(at(2), at(8));
        Check.due("four loops", four.way(2, 8, 0), 4);
        Check.due("over four loops", four.capture(2, 8), 0);
    }

    private static void piecesOfTheOwnSide() {
        Check.sentence("If that is a piece of the other side");
        LoopCaptures x = board(at(10, 4), at(35));
        Check.due("an own piece behind the loop", x.capture(10, 4), -113);
        Check.due("no capture is possible", x.count(5), 0);
        noWay("to an own piece", x, 10, 4);
        Check.due("to an empty point", x.capture(10, 11), -114);
        Check.due("to an empty point behind the loop", x.capture(4, 11), -114);
    }

    private static void withoutALoop() {
        Check.sentence("it went over a loop at least");
        // e4 stands in the column of e2; every other way is shut by own pieces.
        LoopCaptures x = board(at(10, 9, 11, 4), at(22));
        Check.due("without a loop", x.capture(10, 22), -114);
        noWay("without a loop", x, 10, 22);
        Check.due("no capture is possible", x.point(10, 3), 0);
        x.setUp(4, 0);
        x.setUp(11, 0);
        wayIs("as the ways are free", x, 10, 22, 1, 5, 0, 4, 1);
    }

    private static void backToThePlace() {
        Check.sentence("If it comes back to the place from which it went without meeting any, nothing is captured.");
        int[] alone = {6, 7, 8, 10, 11, 14, 15, 21, 28, 33};
        for (int p : alone) {
            LoopCaptures x = board(at(p), at(0));
            Check.due("captures of " + p, x.point(p, 3), 0);
            noWay("to the corner", x, p, 0);
            noWay("to itself", x, p, p);
            Check.due("capture of itself", x.capture(p, p), -113);
            Check.due("captures", x.count(5), 0);
        }
    }

    private static void almostBackToThePlace() {
        Check.sentence("If it comes back to the place from which it went", "and not ahead of it");
        // c2 stands behind c1, which goes around everything to it.
        wayIs("23 places forwards", board(at(2), at(8)), 2, 8, 4, 23, 1, 23, 1);
        wayIs("23 places backwards", board(at(3), at(9)), 3, 9, 4, 23, 1, 6, 0);
        // Of the circuit 1 the points beside d2 are taken.
        LoopCaptures x = board(at(9, 3, 15), at(8));
        wayIs("23 places of the circuit 0", x, 9, 8, 4, 23, 0, 3, 1);
        wayIs("and back", x, 8, 9, 4, 23, 0, 2, 0);
    }

    private static void theFewestLoops() {
        Check.sentence("the one matters that goes over the fewest loops");
        wayIs("ahead of the circuit 0 with four", board(at(8), at(9)), 8, 9, 2, 9, 1, 22, 1);
        wayIs("ahead of forwards with three", board(at(1), at(24)), 1, 24, 1, 6, 0, 23, 0);
        wayIs("forwards ahead of backwards with three", board(at(10), at(4)), 10, 4, 1, 2, 0, 4, 1);
    }

    private static void theFewestPlaces() {
        Check.sentence("of these the one with the fewest places");
        wayIs("ahead of the circuit 0 with five", board(at(8), at(13)), 8, 13, 1, 3, 1, 22, 1);
        wayIs("ahead of forwards with 17", board(at(3), at(2)), 3, 2, 2, 7, 1, 6, 0);
        wayIs("ahead of forwards with 15", board(at(6), at(26)), 6, 26, 2, 9, 0, 0, 0);
    }

    private static void theFirstByTheCircuit() {
        Check.sentence("of these the first one: by the circuit");
        wayIs("both forwards", board(at(8), at(16)), 8, 16, 1, 6, 0, 2, 1);
        wayIs("both backwards", board(at(8), at(19)), 8, 19, 1, 6, 0, 2, 0);
        wayIs("ahead of the place", board(at(13), at(9)), 13, 9, 1, 6, 0, 21, 1);
        LoopCaptures x = board(at(8, 11), at(27));
        wayIs("ahead of forwards", x, 8, 27, 2, 12, 0, 2, 0);
        x.setUp(7, 1);
        wayIs("the circuit 1, as the circuit 0 is shut", x, 8, 27, 2, 12, 1, 22, 1);
    }

    private static void theFirstByThePlace() {
        Check.sentence("then by the place from which it goes");
        wayIs("forwards, then backwards", board(at(7), at(28)), 7, 28, 1, 9, 0, 1, 1);
        LoopCaptures x = board(at(10), at(25));
        wayIs("backwards, ahead of forwards", x, 10, 25, 1, 9, 0, 4, 0);
        x.setUp(9, 1);
        wayIs("the other place, as the first is shut", x, 10, 25, 1, 9, 0, 7, 1);
        wayIs("in the circuit 1", board(at(15), at(20)), 15, 20, 1, 7, 1, 3, 0);
    }

    private static void forwardsAheadOfBackwards() {
        Check.sentence("forwards ahead of backwards.");
        wayIs("from the place 0", board(at(6), at(29)), 6, 29, 2, 12, 0, 0, 1);
        wayIs("from the place 23", board(at(1), at(34)), 1, 34, 2, 12, 0, 23, 1);
        wayIs("from the place 6", board(at(3), at(32)), 3, 32, 2, 12, 1, 6, 1);
        LoopCaptures x = board(at(1, 6), at(34));
        wayIs("backwards, as forwards is shut", x, 1, 34, 2, 12, 0, 23, 0);
    }

    private static void theFirstReason() {
        Check.sentence("A move is not possible for the first of these reasons: 1 the game is over; "
            + "2 the point has no piece of the side that is to move; 3 the other point has a piece of that side "
            + "(or is the same point); 4 no such move");
        for (int kind = 0; kind < 2; kind++) {
            boolean capture = kind == 1;
            LoopCaptures x = board(at(10, 9), at(4, 16));
            Check.due("2 ahead of 3, an empty point", x.reason(11, 9, capture), 2);
            Check.due("2 ahead of 3, the other side", x.reason(4, 10, capture), 2);
            Check.due("2 ahead of 3, an empty point to itself", x.reason(11, 11, capture), 2);
            Check.due("2 ahead of 3, another piece to itself", x.reason(4, 4, capture), 2);
            Check.due("2 ahead of 4", x.reason(11, 30, capture), 2);
            Check.due("3 ahead of 4, beside", x.reason(10, 9, capture), 3);
            Check.due("3, the same point", x.reason(10, 10, capture), 3);
            Check.due("4, far away", x.reason(10, 30, capture), 4);
            Check.due("4, another piece without a way", x.reason(10, 16, capture), 4);
            x.setUp(4, 0);
            x.setUp(16, 0);
            Check.due("1 ahead of 2", x.reason(11, 9, capture), 1);
            Check.due("1 ahead of 3", x.reason(10, 9, capture), 1);
            Check.due("1 ahead of 4", x.reason(10, 30, capture), 1);
            Check.due("1, a quiet move that was possible", x.reason(10, 11, capture), 1);
        }
    }

    private static void noSuchQuietMove() {
        Check.sentence("for a quiet move the point is not empty or not beside it");
        LoopCaptures x = board(at(14), at(15, 2));
        Check.due("beside, not empty", x.reason(14, 15, false), 4);
        Check.due("not beside, empty", x.reason(14, 16, false), 4);
        Check.due("not beside, not empty", x.reason(14, 2, false), 4);
        Check.due("beside, empty", x.reason(14, 13, false), 0);
    }

    private static void noSuchCapture() {
        Check.sentence("for a capture there is no piece of the other side, or no way to it.");
        LoopCaptures x = board(at(10, 9), at(4, 16, 0));
        Check.due("nothing there", x.reason(10, 11, true), 4);
        Check.due("nothing there, behind a loop", x.reason(9, 5, true), 4);
        Check.due("in a corner, where no way goes", x.reason(10, 0, true), 4);
        Check.due("in the line, without a loop", x.reason(10, 16, true), 4);
        Check.due("behind an own piece", x.reason(9, 4, true), 4);
        Check.due("with a way", x.reason(10, 4, true), 0);
    }
}
