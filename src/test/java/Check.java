/** Counts the answers that are not due, and prints each with the sentence that asks for another. */
final class Check {
    private final String test;
    private String sentence = "";
    private int right;
    private int wrong;

    Check(String test) {
        this.test = test;
    }

    /** What is due from here on is due by these words of the document. */
    void sentence(String words) {
        sentence = " \"" + words + "\":";
    }

    void due(String call, long got, long want) {
        if (got == want) {
            right++;
        } else {
            wrong++;
            System.out.println(
                    test + ":" + sentence + " " + call + " answered " + got + ", due is " + want);
        }
    }

    void isTrue(String what, boolean holds) {
        due(what, holds ? 1 : 0, 1);
    }

    void end() {
        System.out.println(test + ": " + right + " right, " + wrong + " wrong");
        if (wrong != 0 || right == 0) {
            System.exit(1);
        }
    }
}
