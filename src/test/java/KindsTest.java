/** Promises 22 to 26: mark, keep, back, count, trace. */
public final class KindsTest {
    private static final Check CHECK = new Check("KindsTest");
    private static final int NONE = HermitDues.NONE;
    private static final int NO = HermitDues.NO;
    private static final int BAD = HermitDues.BAD;
    private static final int STATE = HermitDues.STATE;

    public static void main(String[] args) {
        marks();
        images();
        imagesKeepWhatMayBeUndone();
        imagesKeepAllTen();
        counts();
        CHECK.end();
    }

    private static void marks() {
        HermitDues x = Check.told("tmsm;f6 9 10 1 3;f8 3 4 2 6;");
        x.year();
        x.year();
        Check.give(x, 0, 0, 1);
        x.year();
        // of family 0: JOY 10, IT twice, DUE 10, FORGOTTEN 2, YEARS 3
        int[] due = {10, 12, 0, 24, 2, 13};
        int[] traces = {1, 11, 101, 1011, 10101, 100001};
        long trace = 0;
        for (int kind = 0; kind < 6; kind++) {
            CHECK.same("mark(" + kind + ", 0)", x.mark(kind, 0), due[kind]);
            trace += traces[kind];
            CHECK.same("trace()", x.trace(), trace);
        }
        int[] dueOther = {8, 9, 4, 18, 6, 11};
        for (int kind = 5; kind >= 0; kind--) {
            CHECK.same("mark(" + kind + ", 1)", x.mark(kind, 1), dueOther[kind]);
            trace += traces[kind];
            CHECK.same("trace()", x.trace(), trace);
        }
        int[][] wrong = {{-1, 0}, {6, 0}, {0, -1}, {0, 2}, {5, 5}, {Integer.MAX_VALUE, 0}, {0, Integer.MIN_VALUE}};
        for (int[] w : wrong) {
            CHECK.same("mark(" + w[0] + ", " + w[1] + ")", x.mark(w[0], w[1]), NO);
        }
        CHECK.same("trace() of refused ones", x.trace(), trace);
        x.undo();
        CHECK.same("trace() after undo()", x.trace(), trace);
        CHECK.same("below 0", Check.told("f1 1 30 1 1;").mark(4, 0), -30);
        CHECK.same("no families", new HermitDues().mark(0, 0), NO);
        HermitDues y = Check.told("tm;f1 1 1 1 1;");
        for (int i = 0; i < 400; i++) {
            y.mark(5, 0);
        }
        CHECK.same("trace() of many", y.trace(), 40000400L);
    }

    private static void images() {
        HermitDues x = Check.told("tms;f6 9 10 1 3;f8 3 4 2 6;");
        int[] wrong = {-1, 2, Integer.MAX_VALUE, Integer.MIN_VALUE};
        for (int image : wrong) {
            CHECK.same("keep(" + image + ")", x.keep(image), BAD);
            CHECK.same("back(" + image + ")", x.back(image), BAD);
        }
        CHECK.same("back(0): none kept", x.back(0), STATE);
        x.gives(0, 1);
        x.year();
        CHECK.same("keep(1)", x.keep(1), 1);
        CHECK.same("back(0): none kept", x.back(0), STATE);
        x.gives(1, 0);
        x.year();
        x.year();
        x.saw(0, 1);
        x.mark(0, 0);
        Check.type(x, "tm");
        CHECK.same("keep(0)", x.keep(0), 3);
        CHECK.same("back(1)", x.back(1), 1);
        CHECK.same("turn 0", x.turn(0, 1), 1);
        CHECK.same("turn 1", x.turn(1, 1), NONE);
        CHECK.same("store 0", x.family(0, 8), -10);
        CHECK.same("store 1", x.family(1, 8), 4);
        CHECK.same("chest", x.now(1), 14);
        CHECK.same("years", x.now(0), 1);
        CHECK.same("forgotten 0", x.family(0, 9), 1);
        CHECK.same("undoable", x.count(4), 2);
        CHECK.same("seen is not kept", x.count(3), 1);
        CHECK.same("trace is not kept", x.trace(), 1);
        CHECK.same("text is not kept", x.count(5), 2);
        CHECK.same("back(0)", x.back(0), 3);
        CHECK.same("turn 1", x.turn(1, 1), 0);
        CHECK.same("forgotten 0", x.family(0, 9), 1);
        CHECK.same("store 0", x.family(0, 8), -12);
        CHECK.same("chest", x.now(1), 42);
        x.gives(0, 0);
        CHECK.same("back(0) once more", x.back(0), 3);
        CHECK.same("turn 0", x.turn(0, 1), 1);
        CHECK.same("keep(0) anew", x.keep(0), 3);
    }

    private static void imagesKeepWhatMayBeUndone() {
        HermitDues x = Check.told("tm;f1 1 1 1 1;f1 1 1 1 1;");
        x.gives(0, 0);
        x.gives(0, 1);
        x.keep(0);
        x.undo();
        x.undo();
        for (int i = 0; i < 12; i++) {
            x.gives(0, -1);
        }
        CHECK.same("back(0)", x.back(0), 0);
        CHECK.same("undoable", x.count(4), 2);
        CHECK.same("turn 0", x.turn(0, 1), 1);
        CHECK.same("undo()", x.undo(), 1);
        CHECK.same("turn 0", x.turn(0, 1), 0);
        CHECK.same("undo()", x.undo(), 0);
        CHECK.same("turn 0", x.turn(0, 1), NONE);
        CHECK.same("undo()", x.undo(), STATE);
        CHECK.same("the image is as it was", x.back(0), 0);
        CHECK.same("undoable", x.count(4), 2);
        x.keep(1);
        x.gives(0, 0);
        CHECK.same("back(1)", x.back(1), 0);
        CHECK.same("undoable", x.count(4), 2);
    }

    private static void imagesKeepAllTen() {
        HermitDues x = Check.told("tm;f3 1 1 1 1;f1 1 2 1 1;");
        for (int i = 0; i < 11; i++) {
            x.year();
        }
        x.keep(0);
        for (int i = 0; i < 10; i++) {
            x.gives(0, i % 2);
        }
        CHECK.same("back(0)", x.back(0), 11);
        for (int years = 10; years >= 1; years--) {
            CHECK.same("undo()", x.undo(), years - 1);
            CHECK.same("turn 0", x.turn(0, 1), NONE);
            CHECK.same("years", x.now(0), years);
            CHECK.same("chest", x.now(1), 3 * years);
            CHECK.same("store", x.family(1, 8), -2 * years);
            CHECK.same("forgotten", x.family(1, 9), years);
        }
        CHECK.same("undo()", x.undo(), STATE);
        CHECK.same("back(0): forgotten anew", x.back(0), 11);
        CHECK.same("forgotten", x.family(0, 9), 11);
    }

    private static void counts() {
        HermitDues x = Check.told("tmws;f1 1 1 1 1;f2 2 2 2 2;h5;");
        x.gives(0, 1);
        x.year();
        x.swaps(0, 2);
        x.gives(0, 0);
        x.saw(0, 1);
        x.saw(2, 1);
        x.saw(2, 2);
        x.saw(2, 2);
        x.saw(2, 2);
        Check.type(x, "tm;f1 1");
        int[] due = {3, 2, 5, 5, 4, 7};
        for (int what = 0; what < 6; what++) {
            CHECK.same("count(" + what + ")", x.count(what), due[what]);
        }
        CHECK.same("count(-1)", x.count(-1), BAD);
        CHECK.same("count(6)", x.count(6), BAD);
        CHECK.same("count(max)", x.count(Integer.MAX_VALUE), BAD);
        CHECK.same("count(min)", x.count(Integer.MIN_VALUE), BAD);
    }
}
