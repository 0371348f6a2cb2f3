/** Promises 12 to 16: most, fair, rather, entry, odds. */
public final class TurnsTest {
    private static final Check CHECK = new Check("TurnsTest");
    private static final int NONE = HermitDues.NONE;
    private static final int NO = HermitDues.NO;
    private static final int BAD = HermitDues.BAD;
    private static final String GROTTO = "tmsmwms;f6 9 10 1 3;f8 3 4 2 6; f5 12 0 1 63;h 8;";

    public static void main(String[] args) {
        mostJoy();
        fairest();
        rathers();
        entries();
        oddsOfForgetting();
        nothingIsChanged();
        CHECK.end();
    }

    private static void most(String text, int joy, int... who) {
        HermitDues x = Check.told(text);
        CHECK.same("most(-1) of " + text, x.most(-1), joy);
        for (int t = 0; t < who.length; t++) {
            CHECK.same("most(" + t + ") of " + text, x.most(t), who[t]);
        }
        CHECK.same("most(behind all) of " + text, x.most(who.length), BAD);
        CHECK.same("most(-2) of " + text, x.most(-2), BAD);
    }

    private static void mostJoy() {
        most(GROTTO, 48, 1, 2, 1, NONE, 1, 2);
        most("", 0);
        most("tm;", 0, NONE);
        most("tww;f9 9 0 0 0;", 0, NONE, NONE);
        // nobody is ahead of all, also of one who has nothing of it
        most("tms;f0 5 0 0 0;", 5, NONE, 0);
        most("tmm;f1 0 0 0 0;", 1, NONE, 0);
        // halved is still something
        most("tmm;f7 0 0 0 0;", 10, 0, 0);
        most("tmmm;f7 0 0 0 0;f3 0 0 0 0;", 17, 0, 1, 0);
        most("tmmm;f8 0 0 0 0;f4 0 0 0 0;", 20, 0, 1, 0);
        most("tmm;f8 0 0 0 0;f4 0 0 0 0;", 12, 0, 0);
        most("tmwm;f8 0 0 0 0;f7 0 0 0 0;", 16, 0, NONE, 0);
        HermitDues x = Check.told(GROTTO);
        CHECK.same("most(max)", x.most(Integer.MAX_VALUE), BAD);
        CHECK.same("most(min)", x.most(Integer.MIN_VALUE), BAD);
    }

    private static void fair(String text, int least, int... who) {
        HermitDues x = Check.told(text);
        CHECK.same("fair(-1) of " + text, x.fair(-1), least);
        for (int t = 0; t < who.length; t++) {
            CHECK.same("fair(" + t + ") of " + text, x.fair(t), who[t]);
        }
        CHECK.same("fair(behind all) of " + text, x.fair(who.length), NO);
        CHECK.same("fair(-2) of " + text, x.fair(-2), NO);
    }

    private static void fairest() {
        fair(GROTTO, 5, 0, 2, 1, NONE, 1, 0);
        fair("", NO);
        fair("tm;", NO, NO);
        fair("f3 3 7 0 0;", -7);
        fair("tw;f3 3 7 0 0;f3 3 9 0 0;", -9, NONE);
        // of several, that of most JOY: the least LEFT is 0 by family 1, whatever is given
        fair("tmm;f5 0 0 0 0;f0 0 0 0 0;", 0, 0, 0);
        fair("tm;f5 0 0 0 0;f6 0 0 0 0;", 0, 1);
        // of these the first
        fair("tm;f5 0 0 0 0;f5 0 0 0 0;", 0, 0);
        fair("tm;f0 0 2 0 0;f0 0 0 0 0;", -2, NONE);
        fair("tmm;f9 0 0 0 0;f1 0 0 0 0;", 1, 0, 1);
        fair("tmm;f9 0 20 0 0;f1 0 0 0 0;", -7, 0, 0);
        fair("tsmw;f4 10 1 0 0;f3 9 2 0 0;", 3, 1, 0, NONE);
    }

    private static void rather(String text, int many, int first, int... who) {
        HermitDues x = Check.told(text);
        Check.give(x, who);
        CHECK.same("rather(0) of " + text, x.rather(0), many);
        CHECK.same("rather(1) of " + text, x.rather(1), first);
    }

    private static void rathers() {
        rather("", 0, NONE);
        rather("tms;f1 9 0 0 0;f9 1 0 0 0;", 1, 1, 0, 1);
        rather("tms;f1 9 0 0 0;f9 1 0 0 0;", 0, NONE, 1, 0);
        rather("tms;f1 9 0 0 0;f9 1 0 0 0;", 0, NONE, 0, -1);
        rather("tms;f1 9 0 0 0;f9 1 0 0 0;", 0, NONE, 0, 0);
        // as good as it was is not more
        rather("tms;f1 9 0 0 0;f4 4 0 0 0;", 0, NONE, 0, 1);
        rather("tms;f4 4 0 0 0;f9 1 0 0 0;", 0, NONE, 0, 1);
        // to stand apart is more, too
        rather("tmwmm;f8 0 0 0 0;f6 0 0 0 0;", 0, NONE, 0, -2, 0, 1);
        rather("tmmmm;f8 0 0 0 0;f6 0 0 0 0;", 2, 3, 0, 0, 1, 1);
        rather("tmswsm;f1 9 0 0 0;f9 1 0 0 0;", 2, 1, 0, 1, -2, 1, -1);
        rather("tmswsm;f1 9 0 0 0;f9 1 0 0 0;", 2, 14, 1, 1, -2, 1, 0);
        HermitDues x = Check.told(GROTTO);
        CHECK.same("rather(-1)", x.rather(-1), BAD);
        CHECK.same("rather(2)", x.rather(2), BAD);
        CHECK.same("rather(max)", x.rather(Integer.MAX_VALUE), BAD);
    }

    private static void entries() {
        HermitDues x = Check.told(GROTTO);
        Check.give(x, 1, 0, 0, -2, 2, 2);
        CHECK.same("entry(4, 4, 0)", x.entry(4, 4, 0), 4);
        CHECK.same("entry(4, 4, 1)", x.entry(4, 4, 1), 5);
        CHECK.same("entry(20, 0, 0)", x.entry(20, 0, 0), 4);
        CHECK.same("entry(20, 0, 1)", x.entry(20, 0, 1), 21);
        CHECK.same("entry(0, 20, 0)", x.entry(0, 20, 0), 1);
        CHECK.same("entry(0, 20, 1)", x.entry(0, 20, 1), 14);
        CHECK.same("entry(0, 0, 0)", x.entry(0, 0, 0), 4);
        CHECK.same("entry(20, 20, 1)", x.entry(20, 20, 1), 21);
        int[][] wrong = {{-1, 0, 0}, {21, 0, 0}, {0, -1, 0}, {0, 21, 0}, {0, 0, -1}, {0, 0, 2},
            {Integer.MAX_VALUE, 0, 1}, {0, Integer.MIN_VALUE, 1}};
        for (int[] w : wrong) {
            CHECK.same("entry of wrong numbers", x.entry(w[0], w[1], w[2]), NO);
        }
        CHECK.same("no turns", new HermitDues().entry(1, 1, 0), NO);
        CHECK.same("winters alone", Check.told("tww;f1 1 1 1 1;").entry(1, 1, 1), NO);
        HermitDues y = Check.told("twmm;f7 0 3 0 0;f8 0 3 0 0;");
        CHECK.same("of several the lowest", y.entry(5, 0, 0), 1);
        Check.give(y, -2, 0, 1);
        CHECK.same("below 0: which", y.entry(2, 0, 0), 1);
        CHECK.same("below 0: by how much", y.entry(2, 0, 1), -5);
        CHECK.same("nothing to have", Check.told("tmm;").entry(0, 0, 0), 0);
        CHECK.same("nothing more", Check.told("tmm;").entry(0, 0, 1), 0);
    }

    private static void odds(HermitDues x, int by, long upper, long lower) {
        CHECK.same("odds(" + by + ", 0)", x.odds(by, 0), upper);
        CHECK.same("odds(" + by + ", 1)", x.odds(by, 1), lower);
    }

    private static void oddsOfForgetting() {
        HermitDues x = Check.told(GROTTO);
        odds(x, 3, 0, 1);
        Check.give(x, 1, 0, 0, -2, 2, 2);
        odds(x, 0, 31, 1);
        odds(x, 2, 656, 25);
        odds(x, 10, 0, 1);
        HermitDues y = Check.told("tmmm;f7 0 0 0 0;");
        y.gives(0, 0);
        odds(y, 1, 63, 10);
        odds(y, 5, 7, 2);
        y.gives(1, 0);
        // 7 / 2 and, by 1 in 4 each, 3 and 7
        odds(y, 5, 6, 1);
        y.gives(2, 0);
        odds(y, 5, 17, 2);
        odds(y, 9, 101, 50);
        CHECK.same("odds(-1, 0)", x.odds(-1, 0), BAD);
        CHECK.same("odds(11, 0)", x.odds(11, 0), BAD);
        CHECK.same("odds(5, -1)", x.odds(5, -1), BAD);
        CHECK.same("odds(5, 2)", x.odds(5, 2), BAD);
        CHECK.same("odds(max, 1)", x.odds(Integer.MAX_VALUE, 1), BAD);
        CHECK.same("odds(min, 1)", x.odds(Integer.MIN_VALUE, 1), BAD);
    }

    private static void nothingIsChanged() {
        HermitDues x = Check.told(GROTTO);
        Check.give(x, 0, 1, 0, -2, 2, 2);
        x.most(-1);
        x.fair(-1);
        x.rather(0);
        x.entry(20, 20, 0);
        x.odds(5, 0);
        int[] who = {0, 1, 0, NONE, 2, 2};
        for (int t = 0; t < 6; t++) {
            CHECK.same("turn(" + t + ", 1) afterwards", x.turn(t, 1), who[t]);
        }
        CHECK.same("undoable afterwards", x.count(4), 5);
        // they hang on what is told, not on who is IT
        CHECK.same("most(-1) afterwards", x.most(-1), 48);
        CHECK.same("fair(-1) afterwards", x.fair(-1), 5);
    }
}
