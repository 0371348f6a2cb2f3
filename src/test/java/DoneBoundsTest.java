/** Promises 5 to 11 at their bounds: TURNS, FAMILIES, JOY that is halved, what is GIVEN, EXCHANGED, UNDONE, 99 YEARS. */
public final class DoneBoundsTest {
    private static final Check CHECK = new Check("DoneBoundsTest");
    private static final int BAD = HermitDues.BAD;
    private static final int STATE = HermitDues.STATE;
    private static final int NONE = HermitDues.NONE;
    private static final int NO = HermitDues.NO;
    private static final String FIVE = "f1 2 3 0 4;f5 6 7 1 8;f9 10 11 2 12;f13 14 15 3 16;f17 18 19 0 20;";
    private static final String GREATEST = "f20 20 30 3 63;";

    public static void main(String[] args) {
        turnNumbers();
        familyNumbers();
        nobodyAtFirst();
        wintersAreNobodys();
        halfIsCut();
        turnAhead();
        joyOfFamilies();
        leftAtItsEnds();
        givenToWhom();
        givenWhen();
        exchangedWhich();
        exchangedWithAWinter();
        yearsEnd();
        yearsAtTheirEnds();
        forgottenHowMany();
        yearsWithoutFamilies();
        nothingToUndo();
        tenAreKnown();
        undoneOfAllKinds();
        refusedAreNotKnown();
        undoneAtNinetyNine();
        nowNumbers();
        nowBits();
        leastLeft();
        CHECK.end();
    }

    private static void turnNumbers() {
        CHECK.sentence("Of a TURN: 0 SEASON, 1 who is IT (NONE), 2 JOY. BAD.");
        String six = "mswmsw";
        for (int turns = 0; turns <= 6; turns++) {
            HermitDues x = Check.told("t" + six.substring(0, turns) + ";f1 1 1 1 1;");
            for (int what = 0; what < 3; what++) {
                int asked = what;
                CHECK.range("turn(t, " + what + ") of " + turns, t -> x.turn(t, asked), 0, turns - 1, BAD);
            }
            if (turns > 0) {
                CHECK.range("turn(0, what) of " + turns, what -> x.turn(0, what), 0, 2, BAD);
                CHECK.range("turn(last, what) of " + turns, what -> x.turn(x.count(0) - 1, what), 0, 2, BAD);
            }
            CHECK.same("turn(turns, 3)", x.turn(turns, 3), BAD);
        }
    }

    private static void familyNumbers() {
        CHECK.sentence("Of a FAMILY: 0 MILD .. 9 how often it was FORGOTTEN. NO: BAD.");
        for (int families = 0; families <= 5; families++) {
            HermitDues x = Check.told("tm;" + "f1 1 1 1 1;".repeat(families));
            for (int what = 0; what < 10; what++) {
                int asked = what;
                CHECK.range("family(f, " + what + ") of " + families, f -> x.family(f, asked), 0, families - 1, NO);
            }
            if (families > 0) {
                CHECK.range("family(0, what) of " + families, what -> x.family(0, what), 0, 9, NO);
                CHECK.range("family(last, what) of " + families, what -> x.family(x.count(1) - 1, what), 0, 9, NO);
            }
            CHECK.same("family(families, 10)", x.family(families, 10), NO);
        }
        HermitDues x = Check.told("tm;" + FIVE);
        int[][] told = {{1, 2, 3, 0, 4}, {5, 6, 7, 1, 8}, {9, 10, 11, 2, 12}, {13, 14, 15, 3, 16}, {17, 18, 19, 0, 20}};
        for (int f = 0; f < 5; f++) {
            for (int what = 0; what < 5; what++) {
                CHECK.same("family(" + f + ", " + what + ")", x.family(f, what), told[f][what]);
            }
        }
    }

    private static void nobodyAtFirst() {
        CHECK.sentence("IT in a TURN is a FAMILY, or nobody (nobody in all at first)");
        HermitDues x = Check.told("tmswmsw;" + FIVE);
        for (int t = 0; t < 6; t++) {
            CHECK.same("turn(" + t + ", 1)", x.turn(t, 1), NONE);
            CHECK.same("turn(" + t + ", 2)", x.turn(t, 2), 0);
        }
        for (int f = 0; f < 5; f++) {
            CHECK.same("TURNS of " + f, x.family(f, 5), 0);
            CHECK.same("JOY of " + f, x.family(f, 6), 0);
        }
    }

    private static void wintersAreNobodys() {
        CHECK.sentence("nobody .. in a winter always");
        HermitDues x = Check.told("twmwsmw;" + FIVE);
        for (int t : new int[] {0, 2, 5}) {
            for (int f = -1; f < 5; f++) {
                CHECK.same("gives(" + t + ", " + f + ")", x.gives(t, f), STATE);
            }
            CHECK.same("swaps(1, " + t + ")", x.swaps(1, t), STATE);
            CHECK.same("turn(" + t + ", 1)", x.turn(t, 1), NONE);
            CHECK.same("turn(" + t + ", 2)", x.turn(t, 2), 0);
            CHECK.same("most(" + t + ")", x.most(t), NONE);
            CHECK.same("fair(" + t + ")", x.fair(t), NONE);
            CHECK.same("ways(" + t + ")", x.ways(t), NONE);
        }
    }

    private static void halfIsCut() {
        CHECK.sentence("half of it (cut), if the same FAMILY is IT in the TURN ahead");
        for (int joy = 0; joy <= 20; joy++) {
            HermitDues mild = Check.told("tmm;f" + joy + " 20 0 0 0;");
            Check.give(mild, 0, 0);
            CHECK.same("whole of MILD " + joy, mild.turn(0, 2), joy);
            CHECK.same("half of MILD " + joy, mild.turn(1, 2), joy >> 1);
            HermitDues summer = Check.told("tss;f20 " + joy + " 0 0 0;");
            Check.give(summer, 0, 0);
            CHECK.same("whole of SUMMER " + joy, summer.turn(0, 2), joy);
            CHECK.same("half of SUMMER " + joy, summer.turn(1, 2), joy >> 1);
        }
    }

    private static void joys(String text, int[] who, int... due) {
        HermitDues x = Check.told(text);
        Check.give(x, who);
        int sum = 0;
        for (int t = 0; t < due.length; t++) {
            CHECK.same("turn(" + t + ", 2) of " + text, x.turn(t, 2), due[t]);
            sum += due[t];
        }
        CHECK.same("JOY of all of " + text, x.now(2), sum);
    }

    private static void turnAhead() {
        CHECK.sentence("the TURN ahead (that of number 1 less)");
        String two = "f7 9 0 0 0;f5 3 0 0 0;";
        // the last TURN is not ahead of TURN 0
        joys("tmsmsms;" + two, new int[] {0, 1, 1, 1, 1, 0}, 7, 3, 2, 1, 2, 9);
        joys("tmm;" + two, new int[] {0, 0}, 7, 3);
        joys("tm;" + two, new int[] {0}, 7);
        // half of the whole each time, not of the half
        joys("tmmmmmm;" + two, new int[] {0, 0, 0, 0, 0, 0}, 7, 3, 3, 3, 3, 3);
        // by its own SEASON, whatever that ahead is
        joys("tmsms;" + two, new int[] {0, 0, 0, 0}, 7, 4, 3, 4);
        // a winter, nobody, another one between
        joys("tmwm;" + two, new int[] {0, -2, 0}, 7, 0, 7);
        joys("tmsm;" + two, new int[] {0, -1, 0}, 7, 0, 7);
        joys("tmsm;" + two, new int[] {0, 1, 0}, 7, 3, 7);
        joys("tmsmm;" + two, new int[] {1, 0, 0, 1}, 5, 9, 3, 5);
    }

    private static void joyOfFamilies() {
        CHECK.sentence("JOY of a FAMILY: of all TURNS in which it is IT, together.");
        HermitDues x = Check.told("tmmsmms;f7 9 1 0 0;f5 3 2 0 0;f20 20 3 0 0;");
        Check.give(x, 0, 0, 0, 1, 1, 0);
        int[] bits = {39, 24, 0};
        int[] joy = {7 + 3 + 4 + 9, 5 + 2, 0};
        for (int f = 0; f < 3; f++) {
            CHECK.same("TURNS of " + f, x.family(f, 5), bits[f]);
            CHECK.same("JOY of " + f, x.family(f, 6), joy[f]);
            CHECK.same("LEFT of " + f, x.family(f, 7), joy[f] - f - 1);
        }
    }

    private static void leftAtItsEnds() {
        CHECK.sentence("LEFT: JOY less DUE.");
        HermitDues least = Check.told("tmmmmmm;f0 0 30 0 0;f20 20 30 0 0;");
        Check.give(least, 0, 0, 0, 0, 0, 0);
        CHECK.same("the least: JOY", least.family(0, 6), 0);
        CHECK.same("the least: LEFT", least.family(0, 7), -30);
        CHECK.same("the least without a TURN", least.family(1, 7), -30);
        HermitDues even = Check.told("tmw;f20 0 20 0 0;");
        even.gives(0, 0);
        CHECK.same("even", even.family(0, 7), 0);
        HermitDues most = Check.told("tmsmsms;f20 20 0 0 0;");
        Check.give(most, 0, 0, 0, 0, 0, 0);
        CHECK.same("the most: TURNS", most.family(0, 5), 63);
        CHECK.same("the most: LEFT", most.family(0, 7), 70);
    }

    private static void givenToWhom() {
        CHECK.sentence("GIVEN (f -1: to nobody): who was IT (NONE). BAD");
        for (int families = 0; families <= 5; families++) {
            HermitDues x = Check.told("tmm;" + "f1 1 1 1 1;".repeat(families));
            CHECK.range("gives(1, f) of " + families, f -> x.gives(1, f), -1, families - 1, BAD);
            CHECK.same("the last that was given", x.turn(1, 1), families == 0 ? NONE : families - 1);
            CHECK.same("TURN 0 is not touched", x.turn(0, 1), NONE);
        }
        HermitDues x = Check.told("tmm;" + FIVE);
        CHECK.same("gives(0, 4): nobody was", x.gives(0, 4), NONE);
        CHECK.same("gives(0, 4): the same", x.gives(0, 4), 4);
        CHECK.same("gives(0, 0)", x.gives(0, 0), 4);
        CHECK.same("gives(0, -1)", x.gives(0, -1), 0);
        CHECK.same("gives(0, -1): nobody was", x.gives(0, -1), NONE);
        CHECK.same("gives(0, NONE)", x.gives(0, NONE), BAD);
    }

    private static void givenWhen() {
        CHECK.sentence("GIVEN: a TURN (no winter). BAD; STATE: it is a winter.");
        for (int turns = 0; turns <= 6; turns++) {
            HermitDues x = Check.told("t" + "msmsms".substring(0, turns) + ";f1 1 1 1 1;");
            CHECK.range("gives(t, 0) of " + turns, t -> x.gives(t, 0), 0, turns - 1, BAD);
            CHECK.range("gives(t, -1) of " + turns, t -> x.gives(t, -1), 0, turns - 1, BAD);
        }
        HermitDues x = Check.told("twm;f1 1 1 1 1;");
        CHECK.same("gives(0, 0): a winter", x.gives(0, 0), STATE);
        CHECK.same("gives(0, -1): a winter", x.gives(0, -1), STATE);
        CHECK.same("BAD ahead of STATE: gives(0, 1)", x.gives(0, 1), BAD);
        CHECK.same("BAD ahead of STATE: gives(0, -2)", x.gives(0, -2), BAD);
    }

    private static void exchangedWhich() {
        CHECK.sentence("EXCHANGED: JOY of all together. BAD (alike ones, too)");
        for (int turns = 0; turns <= 6; turns++) {
            HermitDues x = Check.told("t" + "msmsms".substring(0, turns) + ";f1 1 1 1 1;");
            for (int a = -1; a <= turns; a++) {
                for (int b = -1; b <= turns; b++) {
                    boolean both = a >= 0 && b >= 0 && a < turns && b < turns && a != b;
                    CHECK.same("swaps(" + a + ", " + b + ") of " + turns, x.swaps(a, b), both ? 0 : BAD);
                }
            }
        }
        HermitDues x = Check.told("tmmmmmm;f20 20 0 0 0;f20 20 0 0 0;");
        CHECK.range("swaps(0, b)", b -> x.swaps(0, b), 1, 5, BAD);
        CHECK.range("swaps(a, 0)", a -> x.swaps(a, 0), 1, 5, BAD);
        CHECK.same("swaps(max, max)", x.swaps(Integer.MAX_VALUE, Integer.MAX_VALUE), BAD);
        Check.give(x, 0, 1, 0, 1, 0, 1);
        CHECK.same("swaps(0, 5): the first and the last", x.swaps(0, 5), 20 + 10 + 20 + 20 + 20 + 10);
        CHECK.same("swaps(5, 0): as it was", x.swaps(5, 0), 120);
        CHECK.same("swaps(0, 2): of the same", x.swaps(0, 2), 120);
        x.gives(5, -1);
        CHECK.same("swaps(0, 5): with nobody", x.swaps(0, 5), 20 + 20 + 20 + 20 + 10);
        CHECK.same("TURN 0 is nobody's", x.turn(0, 1), NONE);
        CHECK.same("TURN 5 is given", x.turn(5, 1), 0);
    }

    private static void exchangedWithAWinter() {
        CHECK.sentence("EXCHANGED: what two TURNS have (no winter). STATE: one is a winter.");
        HermitDues x = Check.told("tmwsw;f1 1 1 1 1;");
        x.gives(0, 0);
        CHECK.same("swaps(0, 1)", x.swaps(0, 1), STATE);
        CHECK.same("swaps(1, 0)", x.swaps(1, 0), STATE);
        CHECK.same("swaps(1, 3): both", x.swaps(1, 3), STATE);
        CHECK.same("BAD ahead of STATE: swaps(1, 1)", x.swaps(1, 1), BAD);
        CHECK.same("BAD ahead of STATE: swaps(1, 4)", x.swaps(1, 4), BAD);
        CHECK.same("BAD ahead of STATE: swaps(-1, 3)", x.swaps(-1, 3), BAD);
        CHECK.same("swaps(0, 2)", x.swaps(0, 2), 1);
        CHECK.same("known", x.count(4), 2);
    }

    private static void yearsEnd() {
        CHECK.sentence("A YEAR goes by (counted; 99 at most). STATE: there were 99.");
        HermitDues x = Check.told("tm;f5 5 7 0 0;");
        for (int years = 1; years <= 99; years++) {
            CHECK.same("year() no. " + years, x.year(), 1);
            CHECK.same("YEARS", x.now(0), years);
        }
        for (int i = 0; i < 3; i++) {
            CHECK.same("year() no. 100", x.year(), STATE);
        }
        CHECK.same("YEARS", x.now(0), 99);
        CHECK.same("STORE", x.family(0, 8), -7 * 99);
        CHECK.same("THE CHEST", x.now(1), 7 * 99);
        CHECK.same("FORGOTTEN", x.family(0, 9), 99);
        CHECK.same("known", x.count(4), 10);
        // all else may still be done
        CHECK.same("gives(0, 0)", x.gives(0, 0), NONE);
        CHECK.same("year()", x.year(), STATE);
    }

    private static void yearsAtTheirEnds() {
        CHECK.sentence("each FAMILY's LEFT comes to its STORE (it may be below 0), its DUE to THE CHEST");
        HermitDues x = Check.told("tmmmmmm;" + GREATEST + "f20 20 0 0 0;" + GREATEST.repeat(3));
        Check.give(x, 1, 1, 1, 1, 1, 1);
        for (int years = 1; years <= 99; years++) {
            CHECK.same("year()", x.year(), 4);
            CHECK.same("STORE 1", x.family(1, 8), 70 * years);
        }
        CHECK.same("STORE 0", x.family(0, 8), -2970);
        CHECK.same("STORE 1", x.family(1, 8), 6930);
        CHECK.same("STORE 4", x.family(4, 8), -2970);
        CHECK.same("THE CHEST", x.now(1), 11880);
        HermitDues y = Check.told("t;" + GREATEST.repeat(5));
        Check.years(y, 99);
        CHECK.same("the greatest CHEST", y.now(1), 14850);
    }

    private static void forgottenHowMany() {
        CHECK.sentence("each that was not IT in any TURN is FORGOTTEN once more: how many were FORGOTTEN in it.");
        for (int have = 0; have <= 5; have++) {
            HermitDues x = Check.told("tmmmmmm;" + FIVE);
            for (int t = 0; t < have; t++) {
                x.gives(t, t);
            }
            CHECK.same("year() by " + have, x.year(), 5 - have);
            CHECK.same("year() by " + have + " again", x.year(), 5 - have);
            for (int f = 0; f < 5; f++) {
                CHECK.same("FORGOTTEN " + f, x.family(f, 9), f < have ? 0 : 2);
            }
        }
        HermitDues last = Check.told("twwwwwm;f0 0 0 0 0;");
        last.gives(5, 0);
        CHECK.same("IT in the last TURN alone, with no JOY", last.year(), 0);
    }

    private static void yearsWithoutFamilies() {
        CHECK.sentence("A YEAR goes by: also without FAMILIES and TURNS");
        HermitDues x = new HermitDues();
        for (int i = 0; i < 99; i++) {
            CHECK.same("year()", x.year(), 0);
        }
        CHECK.same("year() no. 100", x.year(), STATE);
        CHECK.same("YEARS", x.now(0), 99);
        CHECK.same("THE CHEST", x.now(1), 0);
        CHECK.same("undo()", x.undo(), 9);
    }

    private static void nothingToUndo() {
        CHECK.sentence("UNDONE: how many more may be. STATE: none.");
        HermitDues x = Check.told("tm;f1 1 1 1 1;");
        CHECK.same("undo() at first", x.undo(), STATE);
        x.gives(0, 0);
        CHECK.same("undo() of one", x.undo(), 0);
        CHECK.same("undo() of none", x.undo(), STATE);
        CHECK.same("undo() of none again", x.undo(), STATE);
        CHECK.same("how many may be", x.count(4), 0);
        CHECK.same("who is IT", x.turn(0, 1), NONE);
    }

    private static void tenAreKnown() {
        CHECK.sentence("UNDONE: .. (10 are known, older ones are lost): all is as ahead of it.");
        for (int done = 1; done <= 35; done++) {
            HermitDues x = Check.told("tm;f1 1 2 1 1;f1 1 2 1 1;");
            for (int i = 0; i < done; i++) {
                x.gives(0, i % 3 - 1);
                CHECK.same("known after " + (i + 1), x.count(4), Math.min(i + 1, 10));
            }
            int known = Math.min(done, 10);
            for (int i = 1; i <= known; i++) {
                CHECK.same("undo() no. " + i + " of " + done, x.undo(), known - i);
                int ahead = done - i == 0 ? -1 : (done - i - 1) % 3 - 1;
                CHECK.same("who is IT", x.turn(0, 1), ahead < 0 ? NONE : ahead);
            }
            CHECK.same("undo() beyond what is known", x.undo(), STATE);
        }
        // a place that was UNDONE is taken anew
        HermitDues x = Check.told("tm;f1 1 2 1 1;");
        Check.years(x, 12);
        x.undo();
        x.undo();
        Check.years(x, 1);
        CHECK.same("known", x.count(4), 9);
        Check.years(x, 2);
        CHECK.same("known", x.count(4), 10);
        for (int years = 12; years >= 3; years--) {
            CHECK.same("undo()", x.undo(), years - 3);
            CHECK.same("YEARS", x.now(0), years);
        }
        CHECK.same("undo()", x.undo(), STATE);
    }

    private static void undoneOfAllKinds() {
        CHECK.sentence("UNDONE: the latest GIVEN, EXCHANGED, YEAR");
        HermitDues x = Check.told("tmsm;f6 9 10 1 3;f8 3 4 2 6;");
        x.gives(0, 1);
        x.year();
        x.swaps(0, 1);
        x.year();
        x.gives(2, 0);
        // year by year: IT in 0, 1, 2; STORE 0, 1; THE CHEST; FORGOTTEN 0, 1; YEARS
        int[][] ahead = {
            {NONE, NONE, NONE, 0, 0, 0, 0, 0, 0},
            {1, NONE, NONE, 0, 0, 0, 0, 0, 0},
            {1, NONE, NONE, -10, 4, 14, 1, 0, 1},
            {NONE, 1, NONE, -10, 4, 14, 1, 0, 1},
            {NONE, 1, NONE, -20, 3, 28, 2, 0, 2},
        };
        for (int i = 4; i >= 0; i--) {
            CHECK.same("undo()", x.undo(), i);
            int[] got = {x.turn(0, 1), x.turn(1, 1), x.turn(2, 1), x.family(0, 8), x.family(1, 8), x.now(1), x.family(0, 9), x.family(1, 9),
                x.now(0)};
            for (int j = 0; j < got.length; j++) {
                CHECK.same("no. " + j + " after undo() to " + i, got[j], ahead[i][j]);
            }
        }
    }

    private static void refusedAreNotKnown() {
        CHECK.sentence("Refused, and nothing changes: not known to undo()");
        HermitDues x = Check.told("tmw;f1 1 1 1 1;");
        x.gives(0, 0);
        x.gives(1, 0);
        x.gives(0, 1);
        x.swaps(0, 1);
        x.swaps(0, 0);
        x.swaps(0, 2);
        CHECK.same("known", x.count(4), 1);
        CHECK.same("undo()", x.undo(), 0);
        CHECK.same("TURN 0", x.turn(0, 1), NONE);
    }

    private static void undoneAtNinetyNine() {
        CHECK.sentence("STATE: there were 99 .. UNDONE: all is as ahead of it");
        HermitDues x = Check.told("tm;f1 1 2 1 1;");
        Check.years(x, 100);
        CHECK.same("year() no. 100 is not known: undo()", x.undo(), 9);
        CHECK.same("YEARS", x.now(0), 98);
        CHECK.same("year()", x.year(), 1);
        CHECK.same("YEARS", x.now(0), 99);
        CHECK.same("year()", x.year(), STATE);
    }

    private static void nowNumbers() {
        CHECK.sentence("0 YEARS .. 5 TURNS that nobody has. BAD: NO.");
        HermitDues x = Check.told("tmw;f1 1 1 1 1;");
        CHECK.range("now(what)", what -> x.now(what), 0, 5, NO);
        HermitDues none = new HermitDues();
        int[] due = {0, 0, 0, NO, 0, 0, NO};
        for (int what = 0; what < due.length; what++) {
            CHECK.same("now(" + what + ") of a new one", none.now(what), due[what]);
        }
    }

    private static void nowBits() {
        CHECK.sentence("4 who is not IT in any TURN (bits), 5 TURNS that nobody has (bits, winters too)");
        HermitDues x = Check.told("tmmmmmm;" + FIVE);
        int families = 31;
        int turns = 63;
        CHECK.same("now(4): all", x.now(4), families);
        CHECK.same("now(5): all", x.now(5), turns);
        for (int t = 0; t < 6; t++) {
            x.gives(t, t % 5);
            families &= ~(1 << t % 5);
            turns &= ~(1 << t);
            CHECK.same("now(4) after " + t, x.now(4), families);
            CHECK.same("now(5) after " + t, x.now(5), turns);
        }
        CHECK.same("TURNS of 0", x.family(0, 5), 33);
        CHECK.same("now(5) of winters", Check.told("twwwwww;").now(5), 63);
        HermitDues y = Check.told("tmwmwmw;" + FIVE);
        Check.give(y, 0, -2, 0, -2, 0, -2);
        CHECK.same("now(5): winters alone", y.now(5), 42);
        CHECK.same("now(4): but one", y.now(4), 30);
        CHECK.same("now(4) without TURNS", Check.told(FIVE).now(4), 31);
    }

    private static void leastLeft() {
        CHECK.sentence("3 the least LEFT (NO: no FAMILIES)");
        CHECK.same("no FAMILIES", Check.told("tm;").now(3), NO);
        CHECK.same("no TURNS", Check.told(GREATEST).now(3), -30);
        CHECK.same("nothing DUE", Check.told("f1 1 0 0 0;").now(3), 0);
        HermitDues last = Check.told("tm;f1 1 0 0 0;f1 1 0 0 0;f1 1 0 0 0;f1 1 0 0 0;f1 1 1 0 0;");
        CHECK.same("the last one's", last.now(3), -1);
        HermitDues most = Check.told("tmmmmmm;f20 20 0 0 0;");
        Check.give(most, 0, 0, 0, 0, 0, 0);
        CHECK.same("the greatest", most.now(3), 70);
    }
}
