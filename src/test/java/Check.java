/** Counts answers, prints each one that is not due, and ends the program with 1 if there was one. */
final class Check {
    private static int right = 0;
    private static int wrong = 0;
    private static int sentences = 0;
    private static int answersBefore = 0;
    private static String sentence = "";

    private Check() {
    }

    /**
     * What is checked from here on belongs to these words of the document, under the heading that begins with where.
     * A " | " stands for words in between that are left out. DocumentTest holds the words against the document.
     */
    static void sentence(String where, String words) {
        endSentence();
        sentences++;
        sentence = "[" + where + ": " + words + "] ";
    }

    /** The same, for a part of what the words say. */
    static void sentence(String where, String words, String part) {
        sentence(where, words + " - " + part);
    }

    /** A sentence without one answer has no test, whatever its method is called. */
    private static void endSentence() {
        if (sentences > 0 && right + wrong == answersBefore) {
            wrong++;
            System.out.println(sentence + "has no test");
        }
        answersBefore = right + wrong;
    }

    static void due(String call, long got, long want) {
        if (got == want) {
            right++;
            return;
        }
        wrong++;
        System.out.println(sentence + call + " answered " + got + ", due is " + want);
    }

    static void due(String call, boolean got, boolean want) {
        due(call, got ? 1 : 0, want ? 1 : 0);
    }

    static void end() {
        endSentence();
        System.out.println((sentences > 0 ? sentences + " sentences, " : "") + right + " answers as due, " + wrong
            + " not as due");
        if (wrong != 0 || right == 0) {
            System.exit(1);
        }
    }
}
