/** Prints every answer that is not the one that is due, and ends the test by it. */
final class Due {
    private static final int PRINTED_AT_MOST = 20;

    private final String section;
    private boolean inSentence = false;
    private int askedInSentence = 0;
    private int asked = 0;
    private int wrong = 0;

    /** The section is a heading of the document, where the tests are of its sentences. */
    Due(String section) {
        this.section = section;
    }

    /** Begins the test of a sentence, or of the part of it that these words of the document say. */
    void sentence(String words) {
        endSentence();
        inSentence = true;
        System.out.println(section + ": \"" + words + "\"");
        if (!Document.says(section, words)) {
            note("the document does not say so");
        }
    }

    // A test that asks nothing would pass, whatever the class answers.
    private void endSentence() {
        if (inSentence && askedInSentence == 0) {
            note("nothing is asked about it");
        }
        askedInSentence = 0;
    }

    void is(String call, long got, long want) {
        asked++;
        askedInSentence++;
        if (got != want) {
            note(call + " answered " + got + ", due is " + want);
        }
    }

    /** The numbers of a spindle's first places. */
    void row(String what, SpliceBench x, int s, long... want) {
        for (int i = 0; i < want.length; i++) {
            is(what + ": number(" + s + ", " + i + ")", x.number(s, i), want[i]);
        }
    }

    /** All that Benches.look saw before is still so. */
    void unchanged(String what, SpliceBench x, String before) {
        String after = Benches.look(x);
        is(what + ": nothing is changed", after.equals(before) ? 1 : 0, 1);
        if (!after.equals(before)) {
            System.out.println("  before: " + before + "\n  after:  " + after);
        }
    }

    private void note(String fault) {
        wrong++;
        if (wrong <= PRINTED_AT_MOST) {
            System.out.println("  " + fault);
        }
    }

    boolean allRight() {
        return wrong == 0;
    }

    void end() {
        endSentence();
        System.out.println(asked + " answers, " + wrong + " not as due");
        if (wrong != 0) {
            System.exit(1);
        }
    }
}
