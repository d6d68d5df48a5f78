/** Counts the answers of a test that are not as due; a test ends with finish(). */
final class Check {
    private static int wrong = 0;
    private static int asked = 0;
    private static int askedBefore = 0;
    private static String sentence = "";

    private Check() {
    }

    /** The words of the document that the answers asked for from here on are about. */
    static void sentence(String words) {
        endSentence();
        sentence = words;
        askedBefore = asked;
    }

    /** A sentence that nothing is asked about has no test. */
    private static void endSentence() {
        if (!sentence.isEmpty() && asked == askedBefore) {
            wrong++;
            System.out.println("nothing was asked about: " + sentence);
        }
    }

    static void due(String call, long got, long want) {
        asked++;
        if (got != want) {
            wrong++;
            String broken = sentence.isEmpty() ? "" : "\"" + sentence + "\": ";
            System.out.println(broken + call + " answered " + got + ", due is " + want);
        }
    }

    static void due(String call, boolean got, boolean want) {
        due(call, got ? 1 : 0, want ? 1 : 0);
    }

    static void finish() {
        endSentence();
        System.out.println(asked + " answers, " + wrong + " not as due");
        if (wrong != 0 || asked == 0) {
            System.exit(1);
        }
    }
}
