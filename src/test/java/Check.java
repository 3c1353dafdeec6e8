/** Compares answers with those that are due, and counts those that are not. */
final class Check {
    private static int answers = 0;
    private static int wrong = 0;
    private static int sentences = 0;
    private static String sentence = "";

    private Check() {
    }

    /** What follows is the test of this sentence of the document, told word for word. */
    static void sentence(String quoted) {
        sentences++;
        sentence = "\"" + quoted + "\": ";
    }

    static void sentence(String quoted, String side) {
        sentence(quoted);
        sentence = "\"" + quoted + "\", " + side + ": ";
    }

    static void due(String call, long got, long want) {
        answers++;
        if (got != want) {
            wrong++;
            System.out.println(sentence + call + " answered " + got + ", due is " + want);
        }
    }

    static void finish(String name) {
        String of = sentences == 0 ? "" : " for " + sentences + " sentences";
        System.out.println(name + ": " + answers + " answers" + of + ", " + wrong + " not as due");
        if (wrong != 0 || answers == 0) {
            System.exit(1);
        }
    }
}
