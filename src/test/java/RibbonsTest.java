/** Promises 17 to 21: saw, forget, ways, cheese, free. */
public final class RibbonsTest {
    private static final Check CHECK = new Check("RibbonsTest");
    private static final int NONE = HermitDues.NONE;
    private static final int BAD = HermitDues.BAD;
    private static final int FULL = HermitDues.FULL;

    public static void main(String[] args) {
        seeing();
        forgetting();
        ways();
        sure();
        cheeses();
        freedom();
        CHECK.end();
    }

    private static void seeing() {
        HermitDues x = Check.told("tmws;f1 1 1 0 1;");
        int[][] wrong = {{-1, 0}, {3, 0}, {1, 0}, {0, -1}, {0, 4}, {1, 4}, {Integer.MAX_VALUE, 0}, {0, Integer.MIN_VALUE}};
        for (int[] w : wrong) {
            CHECK.same("saw(" + w[0] + ", " + w[1] + ")", x.saw(w[0], w[1]), BAD);
        }
        CHECK.same("seen", x.count(3), 0);
        for (int i = 1; i <= 6; i++) {
            CHECK.same("saw(2, 3)", x.saw(2, 3), i);
        }
        CHECK.same("the 7th", x.saw(0, 0), FULL);
        CHECK.same("the 7th, wrong", x.saw(1, 0), BAD);
        CHECK.same("seen", x.count(3), 6);
        CHECK.same("no object of turns", new HermitDues().saw(0, 0), BAD);
    }

    private static void forgetting() {
        HermitDues x = Check.told("tm;f1 1 1 0 1;");
        x.saw(0, 3);
        x.saw(0, 3);
        CHECK.same("ways(-1)", x.ways(-1), 0);
        CHECK.same("forget()", x.forget(), 2);
        CHECK.same("forget() again", x.forget(), 0);
        CHECK.same("seen", x.count(3), 0);
        CHECK.same("ways(-1)", x.ways(-1), 2);
        CHECK.same("saw(0, 0)", x.saw(0, 0), 1);
        CHECK.same("ways(-1)", x.ways(-1), 1);
    }

    private static void ways() {
        CHECK.same("no turns", new HermitDues().ways(-1), 1);
        CHECK.same("no families", Check.told("tmsw;").ways(-1), 1);
        CHECK.same("a winter", Check.told("tw;f1 1 1 1 1;").ways(-1), 1);
        CHECK.same("one, twice", Check.told("tms;f1 1 1 1 1;").ways(-1), 3);
        CHECK.same("a winter between", Check.told("tmws;f1 1 1 1 1;").ways(-1), 4);
        CHECK.same("two, thrice", Check.told("tmss;f1 1 1 1 1;f1 1 1 1 1;").ways(-1), 17);
        String five = "f0 0 0 0 0;f0 0 0 1 0;f0 0 0 1 0;f0 0 0 2 0;f0 0 0 2 0;";
        CHECK.same("five, six times", Check.told("tmmssmm;" + five).ways(-1), 22541);
        HermitDues x = Check.told("tmm;" + five);
        CHECK.same("ways(-1)", x.ways(-1), 31);
        x.saw(0, 1);
        CHECK.same("after saw(0, 1)", x.ways(-1), 10);
        x.saw(1, 1);
        CHECK.same("after saw(1, 1)", x.ways(-1), 2);
        x.saw(1, 2);
        CHECK.same("after saw(1, 2)", x.ways(-1), 0);
        CHECK.same("ways(-2)", x.ways(-2), BAD);
        CHECK.same("ways(2)", x.ways(2), BAD);
        CHECK.same("ways(max)", x.ways(Integer.MAX_VALUE), BAD);
        CHECK.same("ways(min)", x.ways(Integer.MIN_VALUE), BAD);
        x.forget();
        Check.give(x, 0, 0);
        CHECK.same("who is IT does not matter", x.ways(-1), 31);
    }

    private static void sure() {
        HermitDues x = Check.told("tmmwm;f0 0 0 0 0;f0 0 0 1 0;f0 0 0 1 0;");
        sures("nothing seen", x, NONE, NONE, NONE, NONE);
        x.saw(0, 0);
        sures("by its own ribbon", x, 0, NONE, NONE, NONE);
        x.saw(1, 1);
        sures("one of two", x, 0, NONE, NONE, NONE);
        x.saw(3, 0);
        sures("and the last", x, 0, NONE, NONE, 0);
        x.saw(0, 1);
        sures("none can be", x, NONE, NONE, NONE, NONE);
        HermitDues y = Check.told("tmmm;f0 0 0 0 0;f0 0 0 1 0;f0 0 0 0 0;");
        y.saw(0, 1);
        y.saw(1, 0);
        sures("neighbours leave two", y, 1, NONE, NONE);
        HermitDues z = Check.told("tmmm;f0 0 0 2 0;f0 0 0 3 0;f0 0 0 3 0;f0 0 0 2 0;");
        z.saw(2, 3);
        sures("two may have it", z, NONE, NONE, NONE);
        HermitDues alone = Check.told("tm;");
        sures("nobody is not sure", alone, NONE);
    }

    private static void sures(String told, HermitDues x, int... due) {
        for (int t = 0; t < due.length; t++) {
            CHECK.same(told + ": ways(" + t + ")", x.ways(t), due[t]);
        }
    }

    private static void cheese(String text, int many, int... hours) {
        HermitDues x = Check.told(text);
        CHECK.same("cheese(-1) of " + text, x.cheese(-1), many);
        for (int f = 0; f < hours.length; f++) {
            CHECK.same("cheese(" + f + ") of " + text, x.cheese(f), hours[f]);
        }
        CHECK.same("cheese(behind all) of " + text, x.cheese(hours.length), BAD);
        CHECK.same("cheese(-2) of " + text, x.cheese(-2), BAD);
        CHECK.same("cheese(max) of " + text, x.cheese(Integer.MAX_VALUE), BAD);
        CHECK.same("cheese(min) of " + text, x.cheese(Integer.MIN_VALUE), BAD);
    }

    private static void cheeses() {
        cheese("", 0);
        cheese("f0 0 0 0 0;", 0, NONE);
        cheese("f0 0 0 0 32;", 1, 5);
        cheese("f0 0 0 0 48;h16;", 1, 5);
        cheese("f0 0 0 0 48;h63;", 0, NONE);
        // one gives way, that more may come
        cheese("f0 0 0 0 3;f0 0 0 0 1;", 2, 1, 0);
        cheese("f0 0 0 0 3;f0 0 0 0 1;h2;", 1, 0, NONE);
        cheese("f0 0 0 0 1;f0 0 0 0 1;f0 0 0 0 3;", 2, 0, NONE, 1);
        cheese("f0 0 0 0 7;f0 0 0 0 1;f0 0 0 0 3;", 3, 2, 0, 1);
        cheese("f0 0 0 0 63;f0 0 0 0 63;f0 0 0 0 63;f0 0 0 0 63;f0 0 0 0 63;", 5, 0, 1, 2, 3, 4);
        cheese("f0 0 0 0 63;f0 0 0 0 63;f0 0 0 0 63;f0 0 0 0 63;f0 0 0 0 63;h9;", 4, 1, 2, 4, 5, NONE);
        cheese("f0 0 0 0 20;f0 0 0 0 33;f0 0 0 0 48;f0 0 0 0 12;h16;", 4, 2, 0, 5, 3);
    }

    private static void freedom() {
        HermitDues x = Check.told("f0 0 0 0 20;f0 0 0 0 33;f0 0 0 0 48;f0 0 0 0 12;f0 0 0 0 0;h63;");
        CHECK.same("free(0)", x.free(0), 15);
        CHECK.same("free(48)", x.free(48), 11);
        CHECK.same("free(63)", x.free(63), 0);
        CHECK.same("free(62)", x.free(62), 2);
        CHECK.same("free(20)", x.free(20), 14);
        CHECK.same("free(-1)", x.free(-1), BAD);
        CHECK.same("free(64)", x.free(64), BAD);
        CHECK.same("free(max)", x.free(Integer.MAX_VALUE), BAD);
        CHECK.same("free(min)", x.free(Integer.MIN_VALUE), BAD);
        CHECK.same("walks stay", x.count(2), 63);
        CHECK.same("two at one hour are both free", Check.told("f0 0 0 0 1;f0 0 0 0 1;").free(62), 3);
    }
}
