/** Promises 22 to 26 at their bounds: KINDS, THE TRACE, IMAGES, what is counted. */
public final class KindBoundsTest {
    private static final Check CHECK = new Check("KindBoundsTest");
    private static final int BAD = HermitDues.BAD;
    private static final int STATE = HermitDues.STATE;
    private static final int NONE = HermitDues.NONE;
    private static final int NO = HermitDues.NO;
    private static final String FAMILY = "f1 1 1 1 1;";
    private static final int[] TRACES = {1, 11, 101, 1011, 10101, 100001};

    public static void main(String[] args) {
        markNumbers();
        marksOfNothing();
        greatestMarks();
        leastMarks();
        traceOfBodies();
        traceOfRefused();
        traceStays();
        imageNumbers();
        noneWasKept();
        imagesApart();
        keptOver();
        imagesKeepNow();
        imagesKeepNothingElse();
        imagesAndWhatMayBeUndone();
        imagesAndNinetyNineYears();
        imagesOfANewObject();
        countNumbers();
        countsAtTheirEnds();
        CHECK.end();
    }

    private static void markNumbers() {
        CHECK.sentence("MARK. NO: BAD.");
        for (int families = 0; families <= 5; families++) {
            HermitDues x = Check.told("tm;" + FAMILY.repeat(families));
            for (int kind = 0; kind < 6; kind++) {
                int asked = kind;
                CHECK.range("mark(" + kind + ", f) of " + families, f -> x.mark(asked, f), 0, families - 1, NO);
            }
            int last = families - 1;
            CHECK.range("mark(kind, last) of " + families, kind -> x.mark(kind, last), 0, families == 0 ? -1 : 5, NO);
            CHECK.same("mark(6, families)", x.mark(6, families), NO);
        }
    }

    private static void marks(HermitDues x, int f, int... due) {
        for (int kind = 0; kind < 6; kind++) {
            CHECK.same("mark(" + kind + ", " + f + ")", x.mark(kind, f), due[kind]);
        }
    }

    private static void marksOfNothing() {
        CHECK.sentence("FAMILY its JOY .. CHILD up, and YEARS: all are 0");
        marks(Check.told("f20 20 0 3 63;"), 0, 0, 0, 0, 0, 0, 0);
        marks(Check.told("tww;f20 20 0 3 63;"), 0, 0, 0, 0, 0, 0, 0);
        // IT, and nothing of it
        HermitDues x = Check.told("tmmm;f0 0 0 0 0;");
        Check.give(x, 0, -1, 0);
        marks(x, 0, 0, 2, 0, 4, 0, 0);
    }

    private static void greatestMarks() {
        CHECK.sentence("MARK of a FAMILY as if of a KIND: the greatest");
        HermitDues x = Check.told("tmmmmmm;f20 20 0 0 0;f20 20 30 0 0;");
        Check.years(x, 99);
        Check.give(x, 0, 0, 0, 0, 0, 0);
        marks(x, 0, 70, 76, 70, 152, 169, 169);
        marks(x, 1, 0, 0, -30, 0, 69, 99);
        // FORGOTTEN and YEARS are not the same number: one that was IT all the time, one that was IT in some
        HermitDues y = Check.told("tmm;f20 20 1 0 0;f20 20 2 0 0;");
        y.gives(0, 0);
        Check.years(y, 90);
        y.gives(1, 1);
        Check.years(y, 9);
        marks(y, 0, 20, 21, 19, 42, 19, 119);
        marks(y, 1, 20, 21, 18, 42, 108, 119);
    }

    private static void leastMarks() {
        CHECK.sentence("AUNT up less its DUE: below 0");
        HermitDues x = Check.told("tm;f0 0 30 0 0;");
        marks(x, 0, 0, 0, -30, 0, -30, 0);
        x.year();
        marks(x, 0, 0, 0, -30, 0, -29, 1);
        x.gives(0, 0);
        marks(x, 0, 0, 1, -30, 2, -29, 1);
    }

    private static void traceOfBodies() {
        CHECK.sentence("numbers in brackets come to THE TRACE as often as mark() asks that body");
        CHECK.same("trace() of a new one", new HermitDues().trace(), 0);
        for (int kind = 0; kind < 6; kind++) {
            HermitDues x = Check.told("tm;" + FAMILY.repeat(5));
            for (int i = 1; i <= 40; i++) {
                x.mark(kind, i % 5);
                CHECK.same("trace() after " + i + " of " + kind, x.trace(), (long) i * TRACES[kind]);
            }
            CHECK.same("trace() changes nothing", x.trace(), 40L * TRACES[kind]);
        }
        HermitDues x = Check.told("f1 1 1 1 1;");
        for (int i = 0; i < 480; i++) {
            x.mark(5, 0);
        }
        CHECK.same("trace() of as many as an object's calls allow", x.trace(), 48000480L);
    }

    private static void traceOfRefused() {
        CHECK.sentence("Refused, and nothing changes: THE TRACE, too");
        HermitDues x = Check.told("tm;" + FAMILY);
        x.mark(4, 0);
        for (int number : new int[] {-1, 6, 7, Integer.MIN_VALUE, Integer.MAX_VALUE}) {
            x.mark(number, 0);
            x.mark(0, number);
            x.mark(5, number);
        }
        x.mark(0, 1);
        x.mark(3, 1);
        CHECK.same("trace()", x.trace(), 10101);
    }

    private static void traceStays() {
        CHECK.sentence("THE TRACE.: no sentence empties it");
        HermitDues x = Check.told("tm;" + FAMILY);
        x.keep(0);
        x.gives(0, 0);
        x.mark(3, 0);
        x.undo();
        CHECK.same("trace() after undo()", x.trace(), 1011);
        x.back(0);
        CHECK.same("trace() after back()", x.trace(), 1011);
        Check.tell(x, "tm;" + FAMILY);
        CHECK.same("trace() after grotto()", x.trace(), 1011);
        x.mark(0, 0);
        CHECK.same("trace() goes on", x.trace(), 1012);
    }

    private static void imageNumbers() {
        CHECK.sentence("IMAGES 0, 1. An IMAGE is kept: YEARS. BAD. .. BAD; STATE: none was kept.");
        HermitDues none = new HermitDues();
        CHECK.range("keep(image) of a new one", image -> none.keep(image), 0, 1, BAD);
        HermitDues x = Check.told("tm;" + FAMILY);
        CHECK.range("back(image): BAD also where none was kept", image -> x.back(image), 0, 1, BAD);
        CHECK.range("keep(image)", image -> x.keep(image), 0, 1, BAD);
        CHECK.range("back(image)", image -> x.back(image), 0, 1, BAD);
    }

    private static void noneWasKept() {
        CHECK.sentence("STATE: none was kept.");
        for (int image = 0; image < 2; image++) {
            HermitDues x = Check.told("tm;" + FAMILY);
            CHECK.same("back(" + image + ") at first", x.back(image), STATE);
            x.keep(1 - image);
            CHECK.same("back(" + image + ") when the other was", x.back(image), STATE);
            CHECK.same("back(" + (1 - image) + ")", x.back(1 - image), 0);
            CHECK.same("back(" + image + ") still", x.back(image), STATE);
            x.keep(image);
            CHECK.same("back(" + image + ") once kept", x.back(image), 0);
            Check.tell(x, "tm;" + FAMILY);
            CHECK.same("back(" + image + ") read anew", x.back(image), STATE);
            x.keep(image);
            // a FAULT leaves it
            x.type('?');
            CHECK.same("grotto()", x.grotto(), -10);
            CHECK.same("back(" + image + ") after a FAULT", x.back(image), 0);
        }
    }

    private static void imagesApart() {
        CHECK.sentence("All of that becomes as an IMAGE has it: YEARS.");
        HermitDues x = Check.told("tm;" + FAMILY);
        CHECK.same("keep(0)", x.keep(0), 0);
        Check.years(x, 3);
        CHECK.same("keep(1)", x.keep(1), 3);
        Check.years(x, 2);
        for (int i = 0; i < 2; i++) {
            CHECK.same("back(0)", x.back(0), 0);
            CHECK.same("YEARS", x.now(0), 0);
            CHECK.same("back(1)", x.back(1), 3);
            CHECK.same("YEARS", x.now(0), 3);
        }
        // what goes on behind it does not reach the IMAGE
        x.gives(0, 0);
        x.year();
        x.undo();
        x.undo();
        x.undo();
        CHECK.same("YEARS", x.now(0), 2);
        CHECK.same("back(1) again", x.back(1), 3);
        CHECK.same("who is IT", x.turn(0, 1), NONE);
        CHECK.same("STORE", x.family(0, 8), -3);
        CHECK.same("FORGOTTEN", x.family(0, 9), 3);
        CHECK.same("known", x.count(4), 3);
    }

    private static void keptOver() {
        CHECK.sentence("An IMAGE is kept: the later one, if it is kept again");
        HermitDues x = Check.told("tm;" + FAMILY);
        x.keep(0);
        x.year();
        x.gives(0, 0);
        CHECK.same("keep(0) again", x.keep(0), 1);
        x.year();
        CHECK.same("back(0)", x.back(0), 1);
        CHECK.same("who is IT", x.turn(0, 1), 0);
        CHECK.same("known", x.count(4), 2);
        x.keep(1);
        x.year();
        x.keep(0);
        CHECK.same("back(1)", x.back(1), 1);
        CHECK.same("back(0)", x.back(0), 2);
    }

    private static void imagesKeepNow() {
        CHECK.sentence("IMAGES keep NOW (who is IT when, STORES, THE CHEST, YEARS, how often each was FORGOTTEN)");
        HermitDues x = Check.told("tmsmsms;f1 2 3 0 0;f2 3 4 0 0;f3 4 5 0 0;f4 5 6 0 0;f5 6 7 0 0;");
        Check.give(x, 4, 3, 2, 1, 2, 3);
        Check.years(x, 2);
        x.keep(1);
        Check.give(x, 0, 0, 0, 0, 0, 0);
        Check.years(x, 5);
        CHECK.same("back(1)", x.back(1), 2);
        int[] who = {4, 3, 2, 1, 2, 3};
        for (int t = 0; t < 6; t++) {
            CHECK.same("turn(" + t + ", 1)", x.turn(t, 1), who[t]);
        }
        int[] stores = {-6, -2, 2, 8, -4};
        int[] forgotten = {2, 0, 0, 0, 0};
        for (int f = 0; f < 5; f++) {
            CHECK.same("STORE " + f, x.family(f, 8), stores[f]);
            CHECK.same("FORGOTTEN " + f, x.family(f, 9), forgotten[f]);
        }
        CHECK.same("THE CHEST", x.now(1), 50);
        CHECK.same("YEARS", x.now(0), 2);
    }

    private static void imagesKeepNothingElse() {
        CHECK.sentence("IMAGES 0, 1 keep NOW ..; nothing else.");
        HermitDues x = Check.told("tm;f1 1 1 1 1;f1 1 1 2 1;h4;");
        x.saw(0, 1);
        x.keep(0);
        x.forget();
        x.saw(0, 2);
        x.saw(0, 2);
        x.mark(1, 0);
        Check.type(x, "h5;");
        x.back(0);
        CHECK.same("SEEN", x.count(3), 2);
        CHECK.same("ways(0)", x.ways(0), 1);
        CHECK.same("trace()", x.trace(), 11);
        CHECK.same("bytes", x.count(5), 3);
        CHECK.same("WALKS", x.count(2), 4);
        // the other IMAGE is none of it, either
        x.keep(1);
        x.year();
        x.keep(0);
        x.back(1);
        CHECK.same("back(0)", x.back(0), 1);
        CHECK.same("grotto()", x.grotto(), 1);
        CHECK.same("WALKS", x.count(2), 5);
    }

    private static void imagesAndWhatMayBeUndone() {
        CHECK.sentence("IMAGES keep NOW (.., what may be UNDONE)");
        for (int known = 0; known <= 12; known++) {
            HermitDues x = Check.told("tm;f3 1 2 1 1;");
            Check.years(x, known);
            x.keep(0);
            int kept = Math.min(known, 10);
            for (int i = 0; i < 3; i++) {
                // more of it, then none of it
                for (int j = 0; j < 11 * i; j++) {
                    x.gives(0, j % 2);
                }
                for (int j = 0; j < 11 * (2 - i); j++) {
                    x.undo();
                }
                CHECK.same("back(0)", x.back(0), known);
                CHECK.same("known", x.count(4), kept);
            }
            for (int i = 1; i <= kept; i++) {
                CHECK.same("undo() of " + known, x.undo(), kept - i);
                CHECK.same("YEARS", x.now(0), known - i);
                CHECK.same("STORE", x.family(0, 8), -2 * (known - i));
            }
            CHECK.same("undo() of none", x.undo(), STATE);
        }
    }

    private static void imagesAndNinetyNineYears() {
        CHECK.sentence("An IMAGE is kept: YEARS. .. becomes as an IMAGE has it: YEARS: at 99");
        HermitDues x = Check.told("tm;" + FAMILY);
        Check.years(x, 98);
        CHECK.same("keep(0)", x.keep(0), 98);
        CHECK.same("year()", x.year(), 1);
        CHECK.same("keep(1)", x.keep(1), 99);
        CHECK.same("year() no. 100", x.year(), STATE);
        CHECK.same("back(0)", x.back(0), 98);
        CHECK.same("year() no. 99", x.year(), 1);
        CHECK.same("year() no. 100", x.year(), STATE);
        CHECK.same("back(1)", x.back(1), 99);
        CHECK.same("year() no. 100", x.year(), STATE);
        CHECK.same("undo()", x.undo(), 9);
        CHECK.same("YEARS", x.now(0), 98);
    }

    private static void imagesOfANewObject() {
        CHECK.sentence("An IMAGE is kept: of no TURNS, nobody");
        HermitDues x = new HermitDues();
        CHECK.same("keep(0)", x.keep(0), 0);
        Check.years(x, 4);
        CHECK.same("keep(1)", x.keep(1), 4);
        CHECK.same("back(0)", x.back(0), 0);
        CHECK.same("undo()", x.undo(), STATE);
        CHECK.same("back(1)", x.back(1), 4);
        CHECK.same("undo()", x.undo(), 3);
        Check.tell(x, "");
        CHECK.same("back(0) read anew", x.back(0), STATE);
        CHECK.same("back(1) read anew", x.back(1), STATE);
    }

    private static void countNumbers() {
        CHECK.sentence("0 TURNS .. 5 bytes of THE TEXT. BAD.");
        HermitDues none = new HermitDues();
        CHECK.range("count(what) of a new one", what -> none.count(what), 0, 5, BAD);
        HermitDues x = Check.told("tmw;" + FAMILY);
        CHECK.range("count(what)", what -> x.count(what), 0, 5, BAD);
    }

    private static void countsAtTheirEnds() {
        CHECK.sentence("0 TURNS, 1 FAMILIES, 2 WALKS (bits), 3 SEEN, 4 how many may be UNDONE, 5 bytes of THE TEXT: the most of each");
        HermitDues x = Check.told("tmmmmmm;" + FAMILY.repeat(5) + "h63;");
        for (int i = 0; i < 11; i++) {
            x.gives(0, 0);
            x.saw(0, 0);
        }
        for (int i = 0; i < 151; i++) {
            x.type(' ');
        }
        int[] most = {6, 5, 63, 6, 10, 150};
        for (int what = 0; what < 6; what++) {
            CHECK.same("count(" + what + ")", x.count(what), most[what]);
        }
        x.grotto();
        for (int what = 0; what < 6; what++) {
            CHECK.same("count(" + what + ") read anew", x.count(what), 0);
        }
    }
}
