/** Promises 12 to 21 at their bounds: MOST, FAIR, RATHER, ENTRY, ODDS, SEEN, WAYS, CHEESE, FREE. */
public final class AskBoundsTest {
    private static final Check CHECK = new Check("AskBoundsTest");
    private static final int BAD = HermitDues.BAD;
    private static final int FULL = HermitDues.FULL;
    private static final int NONE = HermitDues.NONE;
    private static final int NO = HermitDues.NO;
    private static final String SIX = "msmsms";
    private static final String GREATEST = "f20 20 30 3 63;";

    public static void main(String[] args) {
        numbersByTurns();
        numbersByFamilies();
        mostAtItsEnds();
        mostOfSeveral();
        fairAtItsEnds();
        fairWithoutFamilies();
        fairOfSeveral();
        ratherNumbers();
        ratherAtItsEnds();
        ratherOfWhom();
        entryNumbers();
        entryOfWinters();
        entryAtItsEnds();
        oddsNumbers();
        oddsAtTheirEnds();
        oddsInLeastTerms();
        sawNumbers();
        sixAreSeen();
        forgetting();
        waysAtTheirEnds();
        sureOfNone();
        cheeseAtItsEnds();
        cheeseOfSeveral();
        freeNumbers();
        CHECK.end();
    }

    private static void numbersByTurns() {
        for (int turns = 0; turns <= 6; turns++) {
            HermitDues x = Check.told("t" + SIX.substring(0, turns) + ";f1 1 1 1 1;");
            CHECK.sentence("MOST: how much (t = -1), who is IT in a TURN (NONE: nobody). BAD.");
            CHECK.range("most(t) of " + turns, t -> x.most(t), -1, turns - 1, BAD);
            CHECK.sentence("FAIR: the least LEFT (t = -1), who is IT in a TURN (NONE: nobody, too). NO: BAD");
            CHECK.range("fair(t) of " + turns, t -> x.fair(t), -1, turns - 1, NO);
            CHECK.sentence("WAYS: how many (t = -1), SURE of a TURN (NONE). BAD.");
            CHECK.range("ways(t) of " + turns, t -> x.ways(t), -1, turns - 1, BAD);
        }
    }

    private static void numbersByFamilies() {
        CHECK.sentence("CHEESE: how many (f = -1), the HOUR of a FAMILY; NONE. BAD.");
        for (int families = 0; families <= 5; families++) {
            HermitDues x = Check.told("tmm;" + "f1 1 1 1 1;".repeat(families));
            CHECK.range("cheese(f) of " + families, f -> x.cheese(f), -1, families - 1, BAD);
        }
    }

    private static void most(String text, int joy, int... who) {
        HermitDues x = Check.told(text);
        CHECK.same("most(-1) of " + text, x.most(-1), joy);
        for (int t = 0; t < who.length; t++) {
            CHECK.same("most(" + t + ") of " + text, x.most(t), who[t]);
        }
    }

    private static void mostAtItsEnds() {
        CHECK.sentence("MOST: of all ways to give the TURNS (no winter; nobody, too) that by which JOY .. is greatest");
        most("", 0);
        most("t;" + GREATEST, 0);
        most("tmmmmmm;", 0, NONE, NONE, NONE, NONE, NONE, NONE);
        most("twwwwww;" + GREATEST, 0, NONE, NONE, NONE, NONE, NONE, NONE);
        most("tm;" + GREATEST, 20, 0);
        // 20 and five halves, or nobody between: nobody is ahead
        most("tmmmmmm;" + GREATEST, 70, 0, NONE, 0, NONE, 0, 0);
        most("tmwmwmw;" + GREATEST, 60, 0, NONE, 0, NONE, 0, NONE);
        most("tmmmmmm;" + GREATEST.repeat(5), 120, 0, 1, 0, 1, 0, 1);
        most("tmsmsms;f0 0 0 0 0;f0 0 0 0 0;f0 0 0 0 0;f0 0 0 0 0;f20 20 0 0 0;", 70, 4, NONE, 4, NONE, 4, 4);
    }

    private static void mostOfSeveral() {
        CHECK.sentence("of several the first (TURN 0, then 1, ..; nobody ahead of all)");
        most("tmm;f0 0 0 0 0;f0 0 0 0 0;", 0, NONE, NONE);
        most("tmm;f0 0 0 0 0;f1 0 0 0 0;", 1, NONE, 1);
        most("tmm;f3 0 0 0 0;f3 0 0 0 0;", 6, 0, 1);
        most("tmmm;f3 0 0 0 0;f3 0 0 0 0;f3 0 0 0 0;", 9, 0, 1, 0);
        most("tmwm;f3 0 0 0 0;f3 0 0 0 0;", 6, 0, NONE, 0);
        most("tsms;f0 4 0 0 0;f0 4 0 0 0;", 8, 0, NONE, 0);
        most("tmm;f2 0 0 0 0;f1 0 0 0 0;", 3, 0, 0);
    }

    private static void fair(String text, int least, int... who) {
        HermitDues x = Check.told(text);
        CHECK.same("fair(-1) of " + text, x.fair(-1), least);
        for (int t = 0; t < who.length; t++) {
            CHECK.same("fair(" + t + ") of " + text, x.fair(t), who[t]);
        }
    }

    private static void fairAtItsEnds() {
        CHECK.sentence("FAIR: of all such ways that by which the least LEFT is greatest");
        fair(GREATEST.repeat(5), -30);
        fair("twwwwww;" + GREATEST, -30, NONE, NONE, NONE, NONE, NONE, NONE);
        fair("tmmmmmm;f0 0 30 0 0;", -30, NONE, NONE, NONE, NONE, NONE, NONE);
        fair("tmmmmmm;f20 20 0 0 0;", 70, 0, NONE, 0, NONE, 0, 0);
        fair("tmmmmmm;f20 20 20 0 0;f20 20 20 0 0;", 40, 0, 1, 0, 1, 0, 1);
        fair("tmmmmmm;" + GREATEST.repeat(5), -10, 0, 1, 0, 2, 3, 4);
        fair("tmwwwww;" + GREATEST.repeat(5), -30, 0);
        fair("tmm;f20 20 30 0 0;f0 0 0 0 0;", 0, 0, 0);
        // more by 1, however much JOY it costs
        fair("tmm;f20 0 0 0 0;f1 0 0 0 0;", 1, 0, 1);
    }

    private static void fairWithoutFamilies() {
        CHECK.sentence("FAIR: NO: BAD, no FAMILIES.");
        for (String text : new String[] {"", "t;", "tm;", "tmmmmmm;h3;"}) {
            HermitDues x = Check.told(text);
            for (int t = -2; t <= 6; t++) {
                CHECK.same("fair(" + t + ") of " + text, x.fair(t), NO);
            }
        }
    }

    private static void fairOfSeveral() {
        CHECK.sentence("of several that of most JOY, of these the first");
        fair("tmm;f0 0 0 0 0;f4 0 0 0 0;", 0, 1, 1);
        fair("tmm;f0 0 0 0 0;f4 0 0 0 0;f4 0 0 0 0;", 0, 1, 2);
        fair("tmm;f4 0 0 0 0;f4 0 0 0 0;", 4, 0, 1);
        fair("tm;f0 0 5 0 0;f0 0 5 0 0;", -5, NONE);
        fair("tmmm;f1 0 0 0 0;f1 0 0 0 0;", 1, 0, 1, 0);
        fair("tmm;f1 0 0 0 0;", 1, NONE, 0);
    }

    private static void ratherNumbers() {
        CHECK.sentence("RATHER: how many (what = 0), the first (1; NONE). BAD.");
        HermitDues x = Check.told("tms;f1 9 0 0 0;f9 1 0 0 0;");
        CHECK.range("rather(what) of none", what -> x.rather(what), 0, 1, BAD);
        Check.give(x, 0, 1);
        CHECK.range("rather(what) of one", what -> x.rather(what), 0, 1, BAD);
        CHECK.range("rather(what) of a new one", what -> new HermitDues().rather(what), 0, 1, BAD);
    }

    private static void rather(String text, int many, int first, int... who) {
        HermitDues x = Check.told(text);
        Check.give(x, who);
        CHECK.same("rather(0) of " + text, x.rather(0), many);
        CHECK.same("rather(1) of " + text, x.rather(1), first);
    }

    private static void ratherAtItsEnds() {
        CHECK.sentence("how many; the first (10 times the lesser TURN and the other one); NONE.");
        String two = "f1 9 0 0 0;f9 1 0 0 0;";
        rather("", 0, NONE);
        rather("tm;" + two, 0, NONE, 0);
        rather("tmsmsms;" + two, 0, NONE);
        rather("tms;" + two, 1, 1, 0, 1);
        rather("tmwwwws;" + two, 1, 5, 0, -2, -2, -2, -2, 1);
        rather("twwwwms;" + two, 1, 45, -2, -2, -2, -2, 0, 1);
        rather("tsmwwww;" + two, 1, 1, 1, 0);
        rather("tmsmsms;" + two, 9, 1, 0, 1, 0, 1, 0, 1);
        rather("tmsmsms;" + two, 0, NONE, 1, 0, 1, 0, 1, 0);
    }

    private static void ratherOfWhom() {
        CHECK.sentence("each of two unlike FAMILIES, who would both have more LEFT");
        String two = "f1 9 0 0 0;f9 1 0 0 0;";
        rather("tms;" + two, 0, NONE, 0, 0);
        rather("tms;" + two, 0, NONE, 0, -1);
        rather("tms;" + two, 0, NONE, -1, 1);
        // one has as much as it had
        rather("tms;f4 4 0 0 0;f9 1 0 0 0;", 0, NONE, 0, 1);
        rather("tms;f1 9 0 0 0;f4 4 0 0 0;", 0, NONE, 0, 1);
        rather("tms;f4 5 0 0 0;f5 4 0 0 0;", 1, 1, 0, 1);
        // DUE is in both LEFTs alike
        rather("tms;f4 5 30 0 0;f5 4 30 0 0;", 1, 1, 0, 1);
    }

    private static void entryNumbers() {
        CHECK.sentence("ENTRY: m (0 .. 20), s (0 .. 20): the TURN (what = 0), how much more (1). NO: BAD");
        HermitDues x = Check.told("tms;f1 1 1 1 1;");
        for (int what = 0; what < 2; what++) {
            int asked = what;
            CHECK.range("entry(m, 5, " + what + ")", m -> x.entry(m, 5, asked), 0, 20, NO);
            CHECK.range("entry(5, s, " + what + ")", s -> x.entry(5, s, asked), 0, 20, NO);
        }
        CHECK.range("entry(0, 0, what)", what -> x.entry(0, 0, what), 0, 1, NO);
        CHECK.range("entry(20, 20, what)", what -> x.entry(20, 20, what), 0, 1, NO);
        CHECK.same("entry(21, 21, 2)", x.entry(21, 21, 2), NO);
        CHECK.same("entry(20, 21, 0)", x.entry(20, 21, 0), NO);
        CHECK.same("entry(21, 20, 0)", x.entry(21, 20, 0), NO);
    }

    private static void entryOfWinters() {
        CHECK.sentence("take one TURN (no winter) for the year; NO: BAD, all are winters.");
        for (String text : new String[] {"", "t;", "tw;", "twwwwww;" + GREATEST}) {
            HermitDues x = Check.told(text);
            CHECK.same("entry(20, 20, 0) of " + text, x.entry(20, 20, 0), NO);
            CHECK.same("entry(20, 20, 1) of " + text, x.entry(20, 20, 1), NO);
            CHECK.same("entry(0, 0, 0) of " + text, x.entry(0, 0, 0), NO);
        }
        HermitDues last = Check.told("twwwwwm;");
        CHECK.same("entry(0, 0, 0): the last alone", last.entry(0, 0, 0), 5);
        CHECK.same("entry(7, 20, 1): the last alone", last.entry(7, 20, 1), 7);
        HermitDues first = Check.told("tsw;");
        CHECK.same("entry(20, 0, 0): a summer", first.entry(20, 0, 0), 0);
        CHECK.same("entry(20, 3, 1): a summer", first.entry(20, 3, 1), 3);
    }

    private static void entryAtItsEnds() {
        CHECK.sentence("of several the lowest; by how much these are more than JOY of all is NOW (may be below 0)");
        HermitDues x = Check.told("tmmmmmm;" + GREATEST.repeat(2));
        CHECK.same("entry(20, 20, 0): all are nobody's", x.entry(20, 20, 0), 0);
        CHECK.same("entry(20, 20, 1): all are nobody's", x.entry(20, 20, 1), 20);
        Check.give(x, 0, 1, 0, 1, 0, 1);
        CHECK.same("entry(0, 0, 0): each is as bad", x.entry(0, 0, 0), 0);
        CHECK.same("entry(0, 0, 1): the least", x.entry(0, 0, 1), -20);
        CHECK.same("entry(19, 0, 1): one less", x.entry(19, 0, 1), -1);
        CHECK.same("entry(20, 0, 1): as much", x.entry(20, 0, 1), 0);
        HermitDues parted = Check.told("tmsm;f20 0 0 0 0;");
        Check.give(parted, 0, 0, 0);
        CHECK.same("entry(0, 20, 0): the one behind is whole again", parted.entry(0, 20, 0), 1);
        CHECK.same("entry(0, 20, 1): the most", parted.entry(0, 20, 1), 30);
    }

    private static void oddsNumbers() {
        CHECK.sentence("ODDS by x (0 .. 10): upper (what = 0), lower number (1). BAD.");
        HermitDues x = Check.told("tms;f5 9 1 1 1;");
        Check.give(x, 0, 0);
        for (int what = 0; what < 2; what++) {
            int asked = what;
            CHECK.range("odds(x, " + what + ")", by -> x.odds(by, asked), 0, 10, BAD);
        }
        CHECK.range("odds(0, what)", what -> x.odds(0, what), 0, 1, BAD);
        CHECK.range("odds(10, what)", what -> x.odds(10, what), 0, 1, BAD);
        CHECK.same("odds(11, 2)", x.odds(11, 2), BAD);
    }

    private static void odds(HermitDues x, int by, long upper, long lower) {
        CHECK.same("odds(" + by + ", 0)", x.odds(by, 0), upper);
        CHECK.same("odds(" + by + ", 1)", x.odds(by, 1), lower);
    }

    private static void oddsAtTheirEnds() {
        CHECK.sentence("in each TURN HE forgets by x in 10, for itself: then nobody is IT");
        HermitDues none = new HermitDues();
        odds(none, 0, 0, 1);
        odds(none, 10, 0, 1);
        HermitDues x = Check.told("tmmmmmm;" + GREATEST.repeat(2));
        odds(x, 5, 0, 1);
        Check.give(x, 0, 1, 0, 1, 0, 1);
        odds(x, 0, 120, 1);
        odds(x, 1, 108, 1);
        odds(x, 9, 12, 1);
        odds(x, 10, 0, 1);
        // forgotten ahead: not halved
        HermitDues y = Check.told("tmm;f9 0 0 0 0;");
        Check.give(y, 0, 0);
        odds(y, 0, 13, 1);
        odds(y, 5, 31, 4);
        odds(y, 10, 0, 1);
    }

    private static void oddsInLeastTerms() {
        CHECK.sentence("a fraction: .. in least terms");
        HermitDues x = Check.told("tmm;f1 0 0 0 0;");
        x.gives(0, 0);
        long[][] one = {{1, 1}, {9, 10}, {4, 5}, {7, 10}, {3, 5}, {1, 2}, {2, 5}, {3, 10}, {1, 5}, {1, 10}, {0, 1}};
        for (int by = 0; by <= 10; by++) {
            odds(x, by, one[by][0], one[by][1]);
        }
        x.gives(1, 0);
        // (10 - x) / 10 and, where the first alone is forgotten, x (10 - x) / 100
        long[][] two = {{1, 1}, {99, 100}, {24, 25}, {91, 100}, {21, 25}, {3, 4}, {16, 25}, {51, 100}, {9, 25}, {19, 100}, {0, 1}};
        for (int by = 0; by <= 10; by++) {
            odds(x, by, two[by][0], two[by][1]);
        }
        // every number that divides 100 is a lower one
        HermitDues y = Check.told("tmmmmm;f2 0 0 0 0;f1 0 0 0 0;");
        Check.give(y, 0, 0, 1, 1);
        odds(y, 0, 4, 1);
        odds(y, 1, 189, 50);
        Check.give(y, 0, 0, -1, 1, 1);
        odds(y, 1, 189, 50);
        Check.give(y, 1, 1, -1, 1, 1);
        odds(y, 1, 99, 50);
        odds(y, 2, 48, 25);
        odds(y, 5, 3, 2);
        Check.give(y, 1, -1, 1, -1, 1);
        odds(y, 1, 27, 10);
        odds(y, 2, 12, 5);
        Check.give(y, 1, 1, -1, 1, -1);
        odds(y, 5, 5, 4);
        Check.give(y, 1, 1, 1, 1, 1);
        odds(y, 5, 3, 2);
        odds(y, 2, 36, 25);
        odds(y, 4, 39, 25);
    }

    private static void sawNumbers() {
        CHECK.sentence("SEEN: in a TURN (no winter) HE had a RIBBON. BAD (a winter, too)");
        for (int turns = 0; turns <= 6; turns++) {
            HermitDues x = Check.told("t" + SIX.substring(0, turns) + ";f1 1 1 1 1;");
            CHECK.range("saw(t, 0) of " + turns, t -> x.saw(t, 0), 0, turns - 1, BAD);
            CHECK.same("SEEN of " + turns, x.count(3), turns);
        }
        HermitDues x = Check.told("tmw;f1 1 1 1 1;");
        CHECK.range("saw(0, ribbon)", ribbon -> x.saw(0, ribbon), 0, 3, BAD);
        CHECK.range("saw(1, ribbon): a winter", ribbon -> x.saw(1, ribbon), 0, -1, BAD);
        CHECK.same("SEEN", x.count(3), 4);
        CHECK.same("without FAMILIES", Check.told("tm;").saw(0, 3), 1);
    }

    private static void sixAreSeen() {
        CHECK.sentence("SEEN (6 at most): how much there is. BAD ..; FULL.");
        HermitDues x = Check.told("tmw;f0 0 0 2 0;f0 0 0 3 0;");
        for (int i = 1; i <= 6; i++) {
            CHECK.same("saw no. " + i, x.saw(0, 2), i);
        }
        CHECK.same("ways(-1)", x.ways(-1), 1);
        CHECK.same("saw no. 7", x.saw(0, 3), FULL);
        CHECK.same("saw no. 7, the same", x.saw(0, 2), FULL);
        CHECK.same("BAD ahead of FULL: no RIBBON", x.saw(0, 4), BAD);
        CHECK.same("BAD ahead of FULL: a winter", x.saw(1, 2), BAD);
        CHECK.same("BAD ahead of FULL: no TURN", x.saw(2, 2), BAD);
        CHECK.same("SEEN", x.count(3), 6);
        CHECK.same("ways(-1) is as it was", x.ways(-1), 1);
        CHECK.same("ways(0) is as it was", x.ways(0), 0);
        CHECK.same("forget()", x.forget(), 6);
        CHECK.same("saw no. 1 anew", x.saw(0, 3), 1);
        CHECK.same("ways(0) anew", x.ways(0), 1);
    }

    private static void forgetting() {
        CHECK.sentence("Nothing was SEEN: how much there was.");
        HermitDues x = new HermitDues();
        CHECK.same("forget() of a new one", x.forget(), 0);
        for (int many = 0; many <= 7; many++) {
            HermitDues y = Check.told("tm;f0 0 0 1 0;");
            for (int i = 0; i < many; i++) {
                y.saw(0, 2);
            }
            CHECK.same("ways(-1)", y.ways(-1), many == 0 ? 2 : 0);
            CHECK.same("forget() of " + many, y.forget(), Math.min(many, 6));
            CHECK.same("ways(-1)", y.ways(-1), 2);
            CHECK.same("forget() of none", y.forget(), 0);
        }
    }

    private static void waysAtTheirEnds() {
        CHECK.sentence("WAYS: ways .. in which no FAMILY is IT twice running (TURN by TURN; nobody may be)");
        String family = "f0 0 0 1 0;";
        CHECK.same("no TURNS", new HermitDues().ways(-1), 1);
        CHECK.same("no TURNS, FAMILIES", Check.told(family.repeat(5)).ways(-1), 1);
        CHECK.same("no FAMILIES", Check.told("tmmmmmm;").ways(-1), 1);
        CHECK.same("winters", Check.told("twwwwww;" + family.repeat(5)).ways(-1), 1);
        CHECK.same("one TURN", Check.told("tm;" + family.repeat(5)).ways(-1), 6);
        CHECK.same("two TURNS", Check.told("tmm;" + family.repeat(5)).ways(-1), 31);
        CHECK.same("a winter between", Check.told("tmwm;" + family.repeat(5)).ways(-1), 36);
        CHECK.same("one FAMILY", Check.told("tmmmmmm;" + family).ways(-1), 21);
        CHECK.same("the most", Check.told("tmmmmmm;" + family.repeat(5)).ways(-1), 22541);
        // the last TURN and TURN 0 are not running
        HermitDues ring = Check.told("tmmm;f0 0 0 1 0;f0 0 0 2 0;");
        ring.saw(0, 1);
        ring.saw(1, 2);
        ring.saw(2, 1);
        CHECK.same("the first and the last alike", ring.ways(-1), 1);
        HermitDues x = Check.told("tmm;f0 0 0 0 0;");
        x.saw(0, 0);
        CHECK.same("one is SEEN", x.ways(-1), 1);
        x.saw(1, 0);
        CHECK.same("twice running is no way", x.ways(-1), 0);
    }

    private static void sureOfNone() {
        CHECK.sentence("SURE of a TURN: who is IT in all of them (NONE: not the same in all, or nobody, or there are none)");
        HermitDues x = Check.told("tmwm;f0 0 0 1 0;f0 0 0 2 0;f0 0 0 2 0;");
        CHECK.same("not the same in all", x.ways(0), NONE);
        CHECK.same("nobody: a winter", x.ways(1), NONE);
        CHECK.same("nobody: no FAMILIES", Check.told("tm;").ways(0), NONE);
        x.saw(0, 1);
        CHECK.same("sure", x.ways(0), 0);
        x.saw(2, 2);
        CHECK.same("one of two", x.ways(2), NONE);
        x.saw(0, 2);
        for (int t = 0; t < 3; t++) {
            CHECK.same("there are none: " + t, x.ways(t), NONE);
        }
        HermitDues last = Check.told("twwwwwm;f0 0 0 0 0;f0 0 0 0 0;f0 0 0 0 0;f0 0 0 0 0;f0 0 0 3 0;");
        last.saw(5, 3);
        CHECK.same("the last one in the last TURN", last.ways(5), 4);
        HermitDues none = Check.told("tm;f0 0 0 1 0;");
        none.saw(0, 2);
        CHECK.same("a RIBBON of none", none.ways(-1), 0);
        CHECK.same("a RIBBON of none", none.ways(0), NONE);
    }

    private static void cheese(String text, int many, int... hours) {
        HermitDues x = Check.told(text);
        CHECK.same("cheese(-1) of " + text, x.cheese(-1), many);
        for (int f = 0; f < hours.length; f++) {
            CHECK.same("cheese(" + f + ") of " + text, x.cheese(f), hours[f]);
        }
    }

    private static void cheeseAtItsEnds() {
        CHECK.sentence("each at one of its own at which HE is not about, or not at all");
        String all = "f0 0 0 0 63;";
        cheese("", 0);
        cheese("f0 0 0 0 0;", 0, NONE);
        cheese(all + "h63;", 0, NONE);
        for (int hour = 0; hour < 6; hour++) {
            int bit = 1 << hour;
            cheese("f0 0 0 0 " + bit + ";", 1, hour);
            cheese(all + "h" + (63 - bit) + ";", 1, hour);
            cheese("f0 0 0 0 " + bit + ";h" + bit + ";", 0, NONE);
            cheese("f0 0 0 0 " + bit + ";f0 0 0 0 " + bit + ";", 1, hour, NONE);
        }
        cheese(all.repeat(5), 5, 0, 1, 2, 3, 4);
        cheese(all.repeat(5) + "h1;", 5, 1, 2, 3, 4, 5);
        cheese(all.repeat(5) + "h3;", 4, 2, 3, 4, 5, NONE);
        cheese(all.repeat(5) + "h31;", 1, 5, NONE, NONE, NONE, NONE);
    }

    private static void cheeseOfSeveral() {
        CHECK.sentence("that by which most come, of several the first (FAMILY 0's HOUR, then 1's, ..; not at all behind all)");
        cheese("f0 0 0 0 1;f0 0 0 0 1;f0 0 0 0 1;", 1, 0, NONE, NONE);
        cheese("f0 0 0 0 48;f0 0 0 0 48;f0 0 0 0 48;", 2, 4, 5, NONE);
        cheese("f0 0 0 0 3;f0 0 0 0 1;", 2, 1, 0);
        cheese("f0 0 0 0 3;f0 0 0 0 3;f0 0 0 0 1;", 2, 0, 1, NONE);
        cheese("f0 0 0 0 1;f0 0 0 0 3;f0 0 0 0 6;f0 0 0 0 12;f0 0 0 0 24;", 5, 0, 1, 2, 3, 4);
        cheese("f0 0 0 0 3;f0 0 0 0 6;f0 0 0 0 12;f0 0 0 0 24;f0 0 0 0 1;", 5, 1, 2, 3, 4, 0);
        cheese("f0 0 0 0 0;f0 0 0 0 32;f0 0 0 0 32;", 1, NONE, 5, NONE);
    }

    private static void freeNumbers() {
        CHECK.sentence("FREE for w (0 .. 63): FAMILIES (bits) that could come at some HOUR. BAD.");
        HermitDues x = Check.told("f0 0 0 0 1;f0 0 0 0 32;f0 0 0 0 63;f0 0 0 0 0;f0 0 0 0 33;h63;");
        CHECK.range("free(w)", w -> x.free(w), 0, 63, BAD);
        CHECK.range("free(w) of a new one", w -> new HermitDues().free(w), 0, 63, BAD);
        CHECK.same("free(0)", x.free(0), 23);
        CHECK.same("free(1)", x.free(1), 22);
        CHECK.same("free(32)", x.free(32), 21);
        CHECK.same("free(33)", x.free(33), 4);
        CHECK.same("free(62)", x.free(62), 21);
        CHECK.same("free(31)", x.free(31), 22);
        CHECK.same("free(63)", x.free(63), 0);
        CHECK.same("all five", Check.told("f0 0 0 0 1;".repeat(5)).free(62), 31);
        CHECK.same("no FAMILIES", new HermitDues().free(0), 0);
    }
}
