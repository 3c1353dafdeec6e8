import java.util.Random;

/** Long runs with any arguments: no call throws, and every answer keeps within its bounds. */
public final class WildRuns {
    private static final int RUNS = 40;
    private static final int CALLS = 3000;
    private static final int KINDS = 22;

    private final Random random;
    private final LoopCaptures x = new LoopCaptures();

    private WildRuns(int seed) {
        random = new Random(seed);
    }

    public static void main(String[] args) {
        for (int seed = 1; seed <= RUNS; seed++) {
            WildRuns run = new WildRuns(seed);
            for (int call = 1; call <= CALLS; call++) {
                int kind = run.random.nextInt(KINDS);
                int got = run.call(kind);
                Check.due("run " + seed + ", call " + call + " of the kind " + kind + " answered " + got
                    + ": within its bounds", got >= -280 && got <= 3535 ? 1 : 0, 1);
            }
        }
        Check.finish("WildRuns");
    }

    private int any() {
        switch (random.nextInt(8)) {
            case 0: return random.nextInt();
            case 1: return Integer.MIN_VALUE + random.nextInt(3);
            case 2: return Integer.MAX_VALUE - random.nextInt(3);
            case 3: return random.nextInt(100) - 50;
            case 4: case 5: return random.nextInt(4);
            default: return random.nextInt(36);
        }
    }

    private char anyCharacter() {
        return random.nextInt(10) == 0 ? (char) random.nextInt(65536) : "abcdef123456-x;".charAt(random.nextInt(15));
    }

    private int call(int kind) {
        switch (kind) {
            case 0: return x.move(any(), any());
            case 1: return x.capture(any(), any());
            case 2: return x.play(any());
            case 3: return x.setUp(any(), any());
            case 4: return x.turn();
            case 5: return random.nextInt(9) == 0 ? x.begin() : x.count(5);
            case 6: return x.setLimit(any());
            case 7: return x.type(anyCharacter());
            case 8: return random.nextInt(9) == 0 ? x.clearText() : x.count(13);
            case 9: return x.perform();
            case 10: return x.stopped(any());
            case 11: return x.undo();
            case 12: return x.keep();
            case 13: return x.restore();
            case 14: return x.point(any(), any());
            case 15: return x.way(any(), any(), any());
            case 16: return x.circuit(any(), any());
            case 17: return x.reason(any(), any(), random.nextBoolean());
            case 18: return x.possible(any());
            case 19: return x.look(any());
            case 20: return x.best(any());
            default: return x.count(any());
        }
    }
}
