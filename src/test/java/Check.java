import java.util.function.IntToLongFunction;

/** Counts the answers that are not as due, for one test. */
final class Check {
    private final String test;
    private String sentence = "";
    private int right;
    private int wrong;

    Check(String test) {
        this.test = test;
    }

    /** The document's words that the next answers are about: told with each of them that is not as due. */
    void sentence(String words) {
        sentence = "\"" + words + "\": ";
    }

    void same(String call, long got, long due) {
        if (got == due) {
            right++;
            return;
        }
        wrong++;
        System.out.println(test + ": " + sentence + call + " answered " + got + ", due is " + due);
    }

    /** The numbers first .. last may be asked for; those just and far beyond are refused. */
    void range(String call, IntToLongFunction of, int first, int last, long refused) {
        for (int number = first; number <= last; number++) {
            same(call + " of " + number + ": refused", of.applyAsLong(number) == refused ? 1 : 0, 0);
        }
        int[] beyond = {first - 1, first - 2, last + 1, last + 2, -10, -1000000, 256 + first, 65536 + first,
            Integer.MIN_VALUE, Integer.MIN_VALUE + first, Integer.MAX_VALUE};
        for (int number : beyond) {
            if (number < first || number > last) {
                same(call + " of " + number, of.applyAsLong(number), refused);
            }
        }
    }

    boolean allRight() {
        return wrong == 0;
    }

    void end() {
        System.out.println(test + ": " + right + " answers as due, " + wrong + " not");
        if (wrong != 0 || right == 0) {
            System.exit(1);
        }
    }

    static void type(HermitDues x, String text) {
        for (int i = 0; i < text.length(); i++) {
            x.type(text.charAt(i));
        }
    }

    /** A new object to which a text without FAULT has told all. */
    static HermitDues told(String text) {
        HermitDues x = new HermitDues();
        tell(x, text);
        return x;
    }

    static void tell(HermitDues x, String text) {
        x.clear();
        type(x, text);
        if (x.grotto() < 0) {
            throw new IllegalStateException("the test's own text has a FAULT: " + text);
        }
    }

    /** TURNS 0 .. given to these, in turn; -1 is nobody, -2 leaves a TURN as it is. */
    static void give(HermitDues x, int... families) {
        for (int t = 0; t < families.length; t++) {
            if (families[t] != -2) {
                x.gives(t, families[t]);
            }
        }
    }

    static void years(HermitDues x, int many) {
        for (int i = 0; i < many; i++) {
            x.year();
        }
    }
}
