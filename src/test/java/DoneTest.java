/** Promises 7 to 11: gives, swaps, year, undo, now. */
public final class DoneTest {
    private static final Check CHECK = new Check("DoneTest");
    private static final int NONE = HermitDues.NONE;
    private static final int NO = HermitDues.NO;
    private static final int BAD = HermitDues.BAD;
    private static final int STATE = HermitDues.STATE;
    private static final String GROTTO = "tmswm;f6 9 10 1 3;f8 3 4 2 6;f5 12 0 1 63;";

    public static void main(String[] args) {
        giving();
        exchanging();
        years();
        yearsEnd();
        undoing();
        undoingYears();
        tenAreKnown();
        present();
        CHECK.end();
    }

    private static void giving() {
        HermitDues x = Check.told(GROTTO);
        CHECK.same("gives(0, 2)", x.gives(0, 2), NONE);
        CHECK.same("gives(0, 0)", x.gives(0, 0), 2);
        CHECK.same("gives(0, -1)", x.gives(0, -1), 0);
        CHECK.same("gives(0, -1) again", x.gives(0, -1), NONE);
        CHECK.same("each is known", x.count(4), 4);
        CHECK.same("gives(2, 0): a winter", x.gives(2, 0), STATE);
        CHECK.same("gives(2, -1): a winter", x.gives(2, -1), STATE);
        CHECK.same("gives(2, 3): BAD ahead of STATE", x.gives(2, 3), BAD);
        CHECK.same("gives(2, -2)", x.gives(2, -2), BAD);
        CHECK.same("gives(-1, 0)", x.gives(-1, 0), BAD);
        CHECK.same("gives(4, 0)", x.gives(4, 0), BAD);
        CHECK.same("gives(0, 3)", x.gives(0, 3), BAD);
        CHECK.same("gives(0, -2)", x.gives(0, -2), BAD);
        CHECK.same("gives(0, NONE)", x.gives(0, NONE), BAD);
        CHECK.same("gives(max, max)", x.gives(Integer.MAX_VALUE, Integer.MAX_VALUE), BAD);
        CHECK.same("gives(min, min)", x.gives(Integer.MIN_VALUE, Integer.MIN_VALUE), BAD);
        CHECK.same("refused ones are not known", x.count(4), 4);
        CHECK.same("nobody has any", x.now(5), 15);
    }

    private static void exchanging() {
        HermitDues x = Check.told(GROTTO);
        Check.give(x, 0, 1, -2, 1);
        CHECK.same("swaps(0, 1)", x.swaps(0, 1), 8 + 9 + 8);
        CHECK.same("turn 0", x.turn(0, 1), 1);
        CHECK.same("turn 1", x.turn(1, 1), 0);
        CHECK.same("swaps(3, 0): the same one", x.swaps(3, 0), 25);
        x.gives(1, -1);
        CHECK.same("swaps(1, 0): with nobody", x.swaps(1, 0), 3 + 8);
        CHECK.same("turn 0", x.turn(0, 1), NONE);
        CHECK.same("turn 1", x.turn(1, 1), 1);
        CHECK.same("known", x.count(4), 7);
        CHECK.same("swaps(1, 1)", x.swaps(1, 1), BAD);
        CHECK.same("swaps(2, 2): BAD ahead of STATE", x.swaps(2, 2), BAD);
        CHECK.same("swaps(0, 2)", x.swaps(0, 2), STATE);
        CHECK.same("swaps(2, 0)", x.swaps(2, 0), STATE);
        CHECK.same("swaps(2, 4): BAD ahead of STATE", x.swaps(2, 4), BAD);
        CHECK.same("swaps(-1, 0)", x.swaps(-1, 0), BAD);
        CHECK.same("swaps(0, -1)", x.swaps(0, -1), BAD);
        CHECK.same("swaps(4, 0)", x.swaps(4, 0), BAD);
        CHECK.same("swaps(0, 4)", x.swaps(0, 4), BAD);
        CHECK.same("refused ones are not known", x.count(4), 7);
        CHECK.same("halved by an exchange", halvedByExchange(), 7 + 3);
    }

    private static int halvedByExchange() {
        HermitDues x = Check.told("tmmm;f7 0 0 0 0;");
        Check.give(x, 0, -1, 0);
        return x.swaps(1, 2);
    }

    private static void years() {
        HermitDues x = Check.told(GROTTO);
        Check.give(x, 0, 0, -2, 1);
        CHECK.same("year()", x.year(), 1);
        CHECK.same("store 0", x.family(0, 8), 0);
        CHECK.same("store 1", x.family(1, 8), 4);
        CHECK.same("store 2", x.family(2, 8), 0);
        CHECK.same("chest", x.now(1), 14);
        CHECK.same("forgotten 2", x.family(2, 9), 1);
        CHECK.same("forgotten 0", x.family(0, 9), 0);
        Check.give(x, -1, -1);
        CHECK.same("year()", x.year(), 2);
        CHECK.same("store 0 below 0", x.family(0, 8), -10);
        CHECK.same("store 1", x.family(1, 8), 8);
        CHECK.same("chest", x.now(1), 28);
        CHECK.same("forgotten 0", x.family(0, 9), 1);
        CHECK.same("forgotten 2", x.family(2, 9), 2);
        CHECK.same("years", x.now(0), 2);
        CHECK.same("who is IT stays", x.turn(3, 1), 1);
        CHECK.same("LEFT is of one year", x.family(1, 7), 4);
    }

    private static void yearsEnd() {
        HermitDues x = Check.told("tw;f1 1 2 0 0;");
        for (int i = 1; i <= 99; i++) {
            CHECK.same("year()", x.year(), 1);
        }
        CHECK.same("years", x.now(0), 99);
        CHECK.same("the 100th", x.year(), STATE);
        CHECK.same("years", x.now(0), 99);
        CHECK.same("store", x.family(0, 8), -198);
        CHECK.same("chest", x.now(1), 198);
        CHECK.same("forgotten", x.family(0, 9), 99);
        CHECK.same("undo()", x.undo(), 9);
        CHECK.same("year() after undo()", x.year(), 1);
    }

    private static void undoing() {
        HermitDues x = Check.told(GROTTO);
        CHECK.same("undo() of nothing", x.undo(), STATE);
        x.gives(0, 1);
        x.year();
        x.swaps(0, 1);
        x.gives(1, 2);
        x.saw(0, 1);
        CHECK.same("undo() of given", x.undo(), 3);
        CHECK.same("turn 1", x.turn(1, 1), 1);
        CHECK.same("undo() of exchanged", x.undo(), 2);
        CHECK.same("turn 0", x.turn(0, 1), 1);
        CHECK.same("turn 1", x.turn(1, 1), NONE);
        CHECK.same("store", x.family(0, 8), -10);
        CHECK.same("undo() of a year", x.undo(), 1);
        CHECK.same("store", x.family(0, 8), 0);
        CHECK.same("forgotten", x.family(0, 9), 0);
        CHECK.same("chest", x.now(1), 0);
        CHECK.same("years", x.now(0), 0);
        CHECK.same("turn 0", x.turn(0, 1), 1);
        CHECK.same("undo() of the first", x.undo(), 0);
        CHECK.same("turn 0", x.turn(0, 1), NONE);
        CHECK.same("undo() of nothing", x.undo(), STATE);
        CHECK.same("what was seen stays", x.count(3), 1);
    }

    private static void undoingYears() {
        HermitDues x = Check.told(GROTTO);
        x.gives(0, 1);
        for (int i = 0; i < 4; i++) {
            x.year();
        }
        for (int years = 3; years >= 0; years--) {
            CHECK.same("undo()", x.undo(), years + 1);
            CHECK.same("years", x.now(0), years);
            CHECK.same("chest", x.now(1), 14 * years);
            CHECK.same("store 0", x.family(0, 8), -10 * years);
            CHECK.same("store 1", x.family(1, 8), 4 * years);
            CHECK.same("forgotten 0", x.family(0, 9), years);
            CHECK.same("forgotten 1", x.family(1, 9), 0);
            CHECK.same("forgotten 2", x.family(2, 9), years);
        }
    }

    private static void tenAreKnown() {
        HermitDues x = Check.told("tm;f1 1 2 0 0;f1 1 2 0 0;");
        for (int i = 0; i < 13; i++) {
            x.gives(0, i % 2);
            CHECK.same("known", x.count(4), Math.min(i + 1, 10));
        }
        for (int i = 9; i >= 0; i--) {
            CHECK.same("undo()", x.undo(), i);
            CHECK.same("turn 0", x.turn(0, 1), i % 2);
        }
        CHECK.same("older ones are lost", x.undo(), STATE);
        CHECK.same("turn 0", x.turn(0, 1), 0);
    }

    private static void present() {
        HermitDues x = Check.told(GROTTO);
        Check.give(x, 0, 0, -2, 2);
        int[] due = {0, 0, 15, -4, 2, 4};
        for (int what = 0; what < 6; what++) {
            CHECK.same("now(" + what + ")", x.now(what), due[what]);
        }
        x.gives(1, -1);
        x.year();
        CHECK.same("now(0)", x.now(0), 1);
        CHECK.same("now(1)", x.now(1), 14);
        CHECK.same("now(2)", x.now(2), 11);
        CHECK.same("now(3)", x.now(3), -4);
        CHECK.same("now(5)", x.now(5), 6);
        CHECK.same("now(4)", x.now(4), 2);
        x.gives(0, -1);
        CHECK.same("now(4): family 0, too", x.now(4), 3);
        x.gives(3, -1);
        CHECK.same("now(4): all", x.now(4), 7);
        CHECK.same("now(-1)", x.now(-1), NO);
        CHECK.same("now(6)", x.now(6), NO);
        CHECK.same("now(max)", x.now(Integer.MAX_VALUE), NO);
        CHECK.same("now(min)", x.now(Integer.MIN_VALUE), NO);
        CHECK.same("least LEFT above 0", leastAboveNothing(), 5);
        CHECK.same("no families", Check.told("tm;").now(3), NO);
    }

    private static int leastAboveNothing() {
        HermitDues x = Check.told("tmm;f6 0 1 0 0;f9 0 2 0 0;");
        Check.give(x, 0, 1);
        return x.now(3);
    }
}
