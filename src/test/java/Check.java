/** Counts and prints the answers that are not the due ones; end() closes the test. */
final class Check {
    private int wrong = 0;

    void due(String call, long got, long want) {
        if (got != want) {
            wrong++;
            System.out.println(call + " answered " + got + ", due is " + want);
        }
    }

    void due(String what, boolean holds) {
        due(what, holds ? 1 : 0, 1);
    }

    void end() {
        System.out.println(wrong == 0 ? "all answers are as due" : wrong + " answers are not as due");
        if (wrong != 0) {
            System.exit(1);
        }
    }

    static void type(HalfFaces x, String text) {
        x.clearText();
        for (int i = 0; i < text.length(); i++) {
            x.type(text.charAt(i));
        }
    }

    /** Types and reads the rows of a text that has no fault. */
    static HalfFaces with(HalfFaces x, String... texts) {
        for (String text : texts) {
            type(x, text);
            if (x.readRows() < 1) {
                throw new IllegalStateException("a fault in the test's own text: " + text);
            }
        }
        x.clearText();
        return x;
    }
}
