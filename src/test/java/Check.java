/** Compares answers with those that are due, and ends the test with exit code 1 if one was wrong. */
final class Check {
    private int asked = 0;
    private int wrong = 0;

    /** The test of one sentence of the document, named by the words of the sentence. */
    void sentence(String words, Runnable test) {
        int askedBefore = asked;
        int wrongBefore = wrong;
        try {
            test.run();
        } catch (RuntimeException e) {
            wrong++;
            System.out.println("thrown: " + e);
        }
        if (asked == askedBefore) {
            wrong++;
            System.out.println("nothing was asked");
        }
        if (wrong != wrongBefore) {
            System.out.println("does not hold: \"" + words + "\"");
        }
    }

    void due(String call, long got, long want) {
        asked++;
        if (got != want) {
            wrong++;
            System.out.println(call + " answered " + got + ", due is " + want);
        }
    }

    void due(String call, boolean got, boolean want) {
        due(call, got ? 1 : 0, want ? 1 : 0);
    }

    void due(String call, String got, String want) {
        asked++;
        if (!got.equals(want)) {
            wrong++;
            System.out.println(call + " answered\n  " + got + "\ndue is\n  " + want);
        }
    }

    void end() {
        System.out.println((asked - wrong) + " passed, " + wrong + " failed");
        if (wrong != 0 || asked == 0) {
            System.exit(1);
        }
    }
}
