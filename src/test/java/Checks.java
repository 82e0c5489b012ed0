/** Compares answers with those that are due, and counts the wrong ones. */
final class Checks {
    private static final int MOST_PRINTED = 40;
    private String sentence = "";
    private int sentences;
    private int made;
    private int wrong;

    /** The checks from here on are about this sentence of the document. */
    void sentence(String words) {
        sentence = "\"" + words + "\": ";
        sentences++;
    }

    void due(String call, long got, long want) {
        made++;
        if (got != want) {
            tell(call + " answered " + got + ", due is " + want);
        }
    }

    void due(String call, double got, double want) {
        made++;
        if (Double.compare(got, want) != 0) {
            tell(call + " answered " + got + ", due is " + want);
        }
    }

    void holds(String what, boolean isTrue) {
        made++;
        if (!isTrue) {
            tell(what + " does not hold");
        }
    }

    boolean allRight() {
        return wrong == 0;
    }

    private void tell(String message) {
        wrong++;
        if (wrong <= MOST_PRINTED) {
            System.out.println(sentence + message);
        }
    }

    /** Ends the test program, with exit code 1 if an answer was wrong. */
    void end() {
        String about = sentences == 0 ? "" : " about " + sentences + " sentences";
        System.out.println(made + " checks" + about + ", " + wrong + " wrong");
        System.exit(wrong == 0 ? 0 : 1);
    }
}
