/** Counts the answers that are not the ones that are due. */
final class Check {
    private int wrong = 0;
    private String sentence = "";

    /** The document's sentence that the answers from here on stand under. */
    void sentence(String words) {
        sentence = "\"" + words + "\": ";
    }

    void due(String call, long got, long want) {
        if (got != want) {
            wrong++;
            System.out.println(sentence + call + " answered " + got + ", due is " + want);
        }
    }

    void due(String call, boolean got, boolean want) {
        due(call, got ? 1L : 0L, want ? 1L : 0L);
    }

    void end() {
        System.out.println(wrong == 0 ? "all answers are as due" : wrong + " answers are not as due");
        if (wrong != 0) {
            System.exit(1);
        }
    }

    /** An object with so many things, all alone. */
    static CleanMatrix withThings(int kinds, int levels, int things) {
        CleanMatrix made = new CleanMatrix(kinds, levels);
        for (int i = 0; i < things; i++) {
            made.thing();
        }
        return made;
    }
}
