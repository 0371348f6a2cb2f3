/** Promises 1 to 6: a new object, type, clear, grotto, turn, family. */
public final class GrottoTest {
    private static final Check CHECK = new Check("GrottoTest");
    private static final int NONE = HermitDues.NONE;
    private static final int NO = HermitDues.NO;
    private static final int BAD = HermitDues.BAD;
    private static final int FULL = HermitDues.FULL;

    public static void main(String[] args) {
        constants();
        newObject();
        typing();
        clearing();
        readable();
        faults();
        faultChangesNothing();
        readAnew();
        turns();
        families();
        CHECK.end();
    }

    private static void constants() {
        CHECK.same("BAD", HermitDues.BAD, -1);
        CHECK.same("STATE", HermitDues.STATE, -2);
        CHECK.same("FULL", HermitDues.FULL, -3);
        CHECK.same("NONE", HermitDues.NONE, -9);
        CHECK.same("NO", HermitDues.NO, -1000000);
    }

    private static void newObject() {
        HermitDues x = new HermitDues();
        for (int what = 0; what <= 5; what++) {
            CHECK.same("new count(" + what + ")", x.count(what), 0);
            CHECK.same("new now(" + what + ")", x.now(what), what == 3 ? NO : 0);
        }
        CHECK.same("new trace()", x.trace(), 0);
        CHECK.same("new turn(0, 0)", x.turn(0, 0), BAD);
        CHECK.same("new family(0, 0)", x.family(0, 0), NO);
        CHECK.same("new undo()", x.undo(), HermitDues.STATE);
        CHECK.same("new back(0)", x.back(0), HermitDues.STATE);
        CHECK.same("new back(1)", x.back(1), HermitDues.STATE);
        CHECK.same("new clear()", x.clear(), 0);
        CHECK.same("new forget()", x.forget(), 0);
        CHECK.same("new grotto()", x.grotto(), 0);
    }

    private static void typing() {
        HermitDues x = new HermitDues();
        CHECK.same("type(-1)", x.type(-1), BAD);
        CHECK.same("type(256)", x.type(256), BAD);
        CHECK.same("type(max)", x.type(Integer.MAX_VALUE), BAD);
        CHECK.same("type(min)", x.type(Integer.MIN_VALUE), BAD);
        CHECK.same("count(5) after refusals", x.count(5), 0);
        CHECK.same("type(0)", x.type(0), 1);
        CHECK.same("type(255)", x.type(255), 2);
        for (int i = 3; i <= 150; i++) {
            CHECK.same("type(32)", x.type(32), i);
        }
        CHECK.same("151st type", x.type(32), FULL);
        CHECK.same("151st type, wrong", x.type(256), BAD);
        CHECK.same("count(5) when full", x.count(5), 150);
        CHECK.same("clear() when full", x.clear(), 150);
        CHECK.same("type after clear", x.type(32), 1);
    }

    private static void clearing() {
        HermitDues x = Check.told("tm;f1 2 3 0 5;");
        Check.type(x, "tss;");
        CHECK.same("clear()", x.clear(), 4);
        CHECK.same("clear() again", x.clear(), 0);
        CHECK.same("count(5)", x.count(5), 0);
        CHECK.same("turns stay", x.count(0), 1);
        CHECK.same("grotto() of nothing", x.grotto(), 0);
        CHECK.same("turns are gone", x.count(0), 0);
        CHECK.same("families are gone", x.count(1), 0);
    }

    private static void readable() {
        reads("", 0, 0, 0, 0);
        reads("   ", 0, 0, 0, 0);
        reads("t;", 1, 0, 0, 0);
        reads(" t ; ", 1, 0, 0, 0);
        reads("tmswmsw;", 1, 6, 0, 0);
        reads("t m s w;h 63;", 2, 3, 0, 63);
        reads("h0;", 1, 0, 0, 0);
        reads("f20 20 30 3 63;", 1, 0, 1, 0);
        reads("f0 0 0 0 0;h9;f1 1 1 1 1;", 3, 0, 2, 9);
        reads("f 0 0 0 0 0 ;f0 0 0 0 0;f0 0 0 0 0;f0 0 0 0 0;f0 0 0 0 0;", 5, 0, 5, 0);
        reads("tmmmmmm;f0 0 0 0 0;f0 0 0 0 0;f0 0 0 0 0;f0 0 0 0 0;f0 0 0 0 0;h12;", 7, 6, 5, 12);
    }

    private static void reads(String text, int items, int turns, int families, int walks) {
        HermitDues x = new HermitDues();
        Check.type(x, text);
        CHECK.same("grotto() of '" + text + "'", x.grotto(), items);
        CHECK.same("turns of '" + text + "'", x.count(0), turns);
        CHECK.same("families of '" + text + "'", x.count(1), families);
        CHECK.same("walks of '" + text + "'", x.count(2), walks);
        CHECK.same("bytes left of '" + text + "'", x.count(5), 0);
    }

    private static void faults() {
        // a TOKEN that can't stand there
        fault(";", 0);
        fault("  5;", 2);
        fault("m;", 0);
        fault("tm;x;", 3);
        fault("tm;;", 3);
        fault("tmx;", 2);
        fault("tm5;", 2);
        fault("tt;", 1);
        fault("f1 2 3 0;", 8);
        fault("f1 2 3 0 5 6;", 11);
        fault("f1 m", 3);
        fault("h;", 1);
        fault("h1 2;", 3);
        fault("hm;", 1);
        // t behind another ITEM
        fault("tm;tm;", 3);
        fault("h1; t;", 4);
        fault("f0 0 0 0 0;t", 11);
        // too many
        fault("tmmmmmmm;", 7);
        fault("tmmmmmm m;", 8);
        fault("tmmmmmmx;", 7);
        fault("f0 0 0 0 0;f0 0 0 0 0;f0 0 0 0 0;f0 0 0 0 0;f0 0 0 0 0;f0 0 0 0 0;", 55);
        fault("f0 0 0 0 0;f0 0 0 0 0;f0 0 0 0 0;f0 0 0 0 0;f0 0 0 0 0;f", 55);
        fault("h1;h1;", 3);
        fault("h1;f0 0 0 0 0;h", 14);
        fault("h0;h0;", 3);
        // a NUMBER beyond what it may be
        fault("f21 0 0 0 0;", 1);
        fault("f0 21 0 0 0;", 3);
        fault("f0 0 31 0 0;", 5);
        fault("f0 0 0 4 0;", 7);
        fault("f0 0 0 0 64;", 9);
        fault("h64;", 1);
        // a byte that begins none; a NUMBER above 99, or with a 0 ahead
        fault("T;", 0);
        fault("tm\t;", 2);
        fault("tm\n;", 2);
        fault("tm,", 2);
        fault("h-1;", 1);
        fault("f+1 0 0 0 0;", 1);
        fault("`;", 0);
        fault("{;", 0);
        fault("h/;", 1);
        fault("h:;", 1);
        fault("t\u00e9;", 1);
        fault("t\0;", 1);
        fault("h100;", 1);
        fault("h 00;", 2);
        fault("h01;", 1);
        fault("f0 0 0 0 010;", 9);
        fault("h99999999999999999999999999;", 1);
        fault("h4294967296;", 1);
        fault("h1;x0y100", 3);
        // the text ends too early
        fault("t", 1);
        fault("tm", 2);
        fault("tm  ", 4);
        fault("tmmmmmm", 7);
        fault("f", 1);
        fault("f1 2 3 ", 7);
        fault("f1 2 3 0 5", 10);
        fault("h", 1);
        fault("h1", 2);
        fault("tm;h1  ", 7);
    }

    private static void fault(String text, int place) {
        HermitDues x = new HermitDues();
        Check.type(x, text);
        CHECK.same("grotto() of '" + text + "'", x.grotto(), -10 - place);
        CHECK.same("turns after '" + text + "'", x.count(0), 0);
        CHECK.same("families after '" + text + "'", x.count(1), 0);
        CHECK.same("walks after '" + text + "'", x.count(2), 0);
        CHECK.same("bytes after '" + text + "'", x.count(5), text.length());
    }

    private static void faultChangesNothing() {
        HermitDues x = lived();
        Check.type(x, "twww;f1 1 1 1 1;h7;h");
        CHECK.same("grotto() with a FAULT", x.grotto(), -10 - 19);
        CHECK.same("again", x.grotto(), -10 - 19);
        CHECK.same("bytes", x.count(5), 20);
        CHECK.same("turns", x.count(0), 2);
        CHECK.same("season", x.turn(0, 0), 0);
        CHECK.same("it", x.turn(0, 1), 1);
        CHECK.same("mild", x.family(0, 0), 7);
        CHECK.same("families", x.count(1), 2);
        CHECK.same("walks", x.count(2), 2);
        CHECK.same("seen", x.count(3), 1);
        CHECK.same("undoable", x.count(4), 2);
        CHECK.same("years", x.now(0), 1);
        CHECK.same("chest", x.now(1), 8);
        CHECK.same("most", x.most(-1), 17);
        CHECK.same("cheese", x.cheese(-1), 2);
        CHECK.same("image", x.back(1), 1);
    }

    private static void readAnew() {
        HermitDues x = lived();
        CHECK.same("trace before", x.trace(), 1);
        CHECK.same("most before", x.most(-1), 17);
        CHECK.same("fair before", x.fair(-1), 3);
        CHECK.same("cheese before", x.cheese(-1), 2);
        Check.type(x, "tms;f7 9 3 1 5;f8 2 5 2 6;");
        CHECK.same("grotto()", x.grotto(), 3);
        for (int t = 0; t < 2; t++) {
            CHECK.same("it in " + t, x.turn(t, 1), NONE);
        }
        for (int f = 0; f < 2; f++) {
            CHECK.same("store of " + f, x.family(f, 8), 0);
            CHECK.same("forgotten of " + f, x.family(f, 9), 0);
        }
        CHECK.same("years", x.now(0), 0);
        CHECK.same("chest", x.now(1), 0);
        CHECK.same("seen", x.count(3), 0);
        CHECK.same("undoable", x.count(4), 0);
        CHECK.same("undo()", x.undo(), HermitDues.STATE);
        CHECK.same("back(0)", x.back(0), HermitDues.STATE);
        CHECK.same("back(1)", x.back(1), HermitDues.STATE);
        CHECK.same("walks", x.count(2), 0);
        CHECK.same("trace goes on", x.trace(), 1);
        Check.type(x, "tw;f3 3 4 1 0;");
        x.grotto();
        CHECK.same("most anew", x.most(-1), 0);
        CHECK.same("fair anew", x.fair(-1), -4);
        CHECK.same("cheese anew", x.cheese(-1), 0);
        readOften();
    }

    /** Each text tells all: what an earlier one told is gone, however far back. */
    private static void readOften() {
        HermitDues x = new HermitDues();
        for (int i = 0; i < 4; i++) {
            Check.type(x, "tms;f9 9 9 3 63;h7;");
            CHECK.same("grotto() with all", x.grotto(), 3);
            CHECK.same("walks", x.count(2), 7);
            for (int j = 0; j <= i; j++) {
                Check.type(x, j % 2 == 0 ? "" : "f1 1 1 1 1;");
                CHECK.same("grotto() with less", x.grotto(), j % 2);
                CHECK.same("turns", x.count(0), 0);
                CHECK.same("families", x.count(1), j % 2);
                CHECK.same("walks", x.count(2), 0);
            }
        }
    }

    /** One whose every part has been changed once. */
    private static HermitDues lived() {
        HermitDues x = Check.told("tms;f7 9 3 1 5;f8 2 5 2 12;h2;");
        x.gives(0, 1);
        x.year();
        x.saw(1, 1);
        x.keep(0);
        x.keep(1);
        x.mark(0, 0);
        return x;
    }

    private static void turns() {
        HermitDues x = Check.told("tmmsswm;f7 9 3 1 5;f8 3 5 2 6;");
        Check.give(x, 0, 0, 0, 1, -2, 1);
        int[] seasons = {0, 0, 1, 1, 2, 0};
        int[] who = {0, 0, 0, 1, NONE, 1};
        int[] joy = {7, 3, 4, 3, 0, 8};
        for (int t = 0; t < 6; t++) {
            CHECK.same("turn(" + t + ", 0)", x.turn(t, 0), seasons[t]);
            CHECK.same("turn(" + t + ", 1)", x.turn(t, 1), who[t]);
            CHECK.same("turn(" + t + ", 2)", x.turn(t, 2), joy[t]);
        }
        int[] wrong = {-1, 6, 7, Integer.MIN_VALUE, Integer.MAX_VALUE};
        for (int t : wrong) {
            CHECK.same("turn(" + t + ", 0)", x.turn(t, 0), BAD);
        }
        int[] wrongWhat = {-1, 3, Integer.MIN_VALUE, Integer.MAX_VALUE};
        for (int what : wrongWhat) {
            CHECK.same("turn(0, " + what + ")", x.turn(0, what), BAD);
        }
    }

    private static void families() {
        HermitDues x = Check.told("tmmsswm;f7 9 30 1 5;f8 3 5 2 6;f4 4 4 3 63;");
        Check.give(x, 0, 0, 0, 1, -2, 1);
        x.year();
        x.gives(3, -1);
        int[][] due = {
            {7, 9, 30, 1, 5, 7, 14, -16, -16, 0},
            {8, 3, 5, 2, 6, 32, 8, 3, 6, 0},
            {4, 4, 4, 3, 63, 0, 0, -4, -4, 1},
        };
        for (int f = 0; f < 3; f++) {
            for (int what = 0; what < 10; what++) {
                CHECK.same("family(" + f + ", " + what + ")", x.family(f, what), due[f][what]);
            }
        }
        int[] wrong = {-1, 3, 5, Integer.MIN_VALUE, Integer.MAX_VALUE};
        for (int f : wrong) {
            CHECK.same("family(" + f + ", 0)", x.family(f, 0), NO);
            CHECK.same("family(" + f + ", 8)", x.family(f, 8), NO);
        }
        int[] wrongWhat = {-1, 10, Integer.MIN_VALUE, Integer.MAX_VALUE};
        for (int what : wrongWhat) {
            CHECK.same("family(0, " + what + ")", x.family(0, what), NO);
        }
    }
}
