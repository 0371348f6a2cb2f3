/** Counts the answers that are not as due, for one test. */
final class Check {
    private final String test;
    private int right;
    private int wrong;

    Check(String test) {
        this.test = test;
    }

    void same(String call, long got, long due) {
        if (got == due) {
            right++;
            return;
        }
        wrong++;
        System.out.println(test + ": " + call + " answered " + got + ", due is " + due);
    }

    boolean allRight() {
        return wrong == 0;
    }

    void end() {
        System.out.println(test + ": " + right + " answers as due, " + wrong + " not");
        if (wrong != 0 || right == 0) {
            System.exit(1);
        }
    }

    static void type(HermitDues x, String text) {
        for (int i = 0; i < text.length(); i++) {
            x.type(text.charAt(i));
        }
    }

    /** A new object to which a text without FAULT has told all. */
    static HermitDues told(String text) {
        HermitDues x = new HermitDues();
        type(x, text);
        if (x.grotto() < 0) {
            throw new IllegalStateException("the test's own text has a FAULT: " + text);
        }
        return x;
    }

    /** TURNS 0 .. given to these, in turn; -1 is nobody, -2 leaves a TURN as it is. */
    static void give(HermitDues x, int... families) {
        for (int t = 0; t < families.length; t++) {
            if (families[t] != -2) {
                x.gives(t, families[t]);
            }
        }
    }
}
