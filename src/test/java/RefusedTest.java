import java.util.function.Supplier;

/** "Refused, and nothing changes, the first of these: BAD .., STATE (as told), FULL." Each refused call, on objects of many pasts. */
public final class RefusedTest {
    private static final Check CHECK = new Check("RefusedTest");
    private static final int BAD = HermitDues.BAD;
    private static final int STATE = HermitDues.STATE;
    private static final int FULL = HermitDues.FULL;
    private static final int NO = HermitDues.NO;
    private static final int MIN = Integer.MIN_VALUE;
    private static final int MAX = Integer.MAX_VALUE;
    // TURN 2 is a winter; TURNS and FAMILIES are the most there may be.
    private static final String GREAT = "tmswmsm;f6 9 9 1 3;f8 3 4 2 6;f5 7 0 1 63;f2 2 2 3 8;f9 1 8 0 5;h8;";
    private static final String SMALL = "tmsw;f6 9 10 1 3;f8 3 4 2 6;h1;";

    private static final Twins FRESH = twins("new", HermitDues::new);
    private static final Twins FEW = twins("few", RefusedTest::few);
    private static final Twins MANY = twins("many", RefusedTest::many);
    private static final Twins FULL_TEXT = twins("full text", RefusedTest::fullText);
    private static final Twins ALL_SEEN = twins("all seen", RefusedTest::allSeen);
    private static final Twins ALL_YEARS = twins("99 years", RefusedTest::allYears);
    private static final Twins ALL_UNDONE = twins("all undone", RefusedTest::allUndone);
    private static final Twins READ_ANEW = twins("read anew", RefusedTest::readAnew);

    public static void main(String[] args) {
        for (Twins x : new Twins[] {FRESH, FEW, MANY, FULL_TEXT, ALL_SEEN, ALL_YEARS, ALL_UNDONE, READ_ANEW}) {
            badNumbers(x);
            badWhats(x);
            questions(x);
        }
        numbersBeyond(FRESH, 0, 0);
        numbersBeyond(FEW, 3, 2);
        for (Twins x : new Twins[] {MANY, ALL_SEEN, ALL_YEARS}) {
            numbersBeyond(x, 6, 5);
        }
        for (Twins x : new Twins[] {FEW, MANY, ALL_SEEN, ALL_YEARS}) {
            winters(x);
        }
        states();
        fulls();
        faults();
        CHECK.end();
    }

    private static Twins twins(String name, Supplier<HermitDues> made) {
        return new Twins(CHECK, name, made);
    }

    // ---- the pasts

    private static HermitDues few() {
        HermitDues x = Check.told(SMALL);
        x.gives(0, 1);
        x.keep(0);
        x.year();
        x.saw(1, 1);
        x.mark(3, 0);
        Check.type(x, "tm;h6;");
        return x;
    }

    private static HermitDues many() {
        HermitDues x = Check.told(GREAT);
        Check.give(x, 0, 1, -2, 2, 3);
        x.keep(0);
        Check.years(x, 3);
        x.swaps(0, 4);
        x.keep(1);
        x.gives(5, 4);
        x.year();
        x.undo();
        x.saw(0, 1);
        x.saw(4, 1);
        x.mark(4, 2);
        Check.type(x, "tmm;f1 2 3 0 4;");
        return x;
    }

    private static HermitDues fullText() {
        HermitDues x = Check.told(SMALL);
        x.gives(1, 0);
        x.keep(1);
        Check.type(x, GREAT + " ".repeat(150 - GREAT.length()));
        return x;
    }

    private static HermitDues allSeen() {
        HermitDues x = Check.told(GREAT);
        x.gives(0, 4);
        for (int i = 0; i < 6; i++) {
            x.saw(i % 2, 1);
        }
        return x;
    }

    private static HermitDues allYears() {
        HermitDues x = Check.told(GREAT);
        Check.give(x, 0, 1, -2, 2, 3);
        Check.years(x, 92);
        x.keep(0);
        x.gives(5, 4);
        Check.years(x, 7);
        x.keep(1);
        return x;
    }

    private static HermitDues allUndone() {
        HermitDues x = Check.told(SMALL);
        x.gives(0, 1);
        x.year();
        x.undo();
        x.undo();
        return x;
    }

    private static HermitDues readAnew() {
        HermitDues x = many();
        Check.tell(x, SMALL);
        return x;
    }

    // ---- what is BAD in any of them

    private static void badNumbers(Twins x) {
        for (int number : new int[] {-2, 6, 256, MIN, MAX}) {
            x.refused("turn(" + number + ", 0)", o -> o.turn(number, 0), BAD);
            x.refused("family(" + number + ", 0)", o -> o.family(number, 0), NO);
            x.refused("gives(" + number + ", -1)", o -> o.gives(number, -1), BAD);
            x.refused("gives(0, " + number + ")", o -> o.gives(0, number), BAD);
            x.refused("swaps(" + number + ", 0)", o -> o.swaps(number, 0), BAD);
            x.refused("swaps(0, " + number + ")", o -> o.swaps(0, number), BAD);
            x.refused("swaps(" + number + ", the same)", o -> o.swaps(number, number), BAD);
            x.refused("most(" + number + ")", o -> o.most(number), BAD);
            x.refused("fair(" + number + ")", o -> o.fair(number), NO);
            x.refused("ways(" + number + ")", o -> o.ways(number), BAD);
            x.refused("cheese(" + number + ")", o -> o.cheese(number), BAD);
            x.refused("saw(" + number + ", 0)", o -> o.saw(number, 0), BAD);
            x.refused("saw(0, " + number + ")", o -> o.saw(0, number), BAD);
            x.refused("mark(" + number + ", 0)", o -> o.mark(number, 0), NO);
            x.refused("mark(0, " + number + ")", o -> o.mark(0, number), NO);
            x.refused("mark(5, " + number + ")", o -> o.mark(5, number), NO);
        }
        x.refused("turn(-1, 1)", o -> o.turn(-1, 1), BAD);
        x.refused("family(-1, 8)", o -> o.family(-1, 8), NO);
        x.refused("family(5, 8)", o -> o.family(5, 8), NO);
        x.refused("gives(-1, -1)", o -> o.gives(-1, -1), BAD);
        x.refused("gives(0, 5)", o -> o.gives(0, 5), BAD);
        x.refused("gives(0, NONE)", o -> o.gives(0, HermitDues.NONE), BAD);
        x.refused("swaps(-1, 0)", o -> o.swaps(-1, 0), BAD);
        x.refused("swaps(0, 0)", o -> o.swaps(0, 0), BAD);
        x.refused("swaps(2, 2)", o -> o.swaps(2, 2), BAD);
        x.refused("saw(0, -1)", o -> o.saw(0, -1), BAD);
        x.refused("saw(0, 4)", o -> o.saw(0, 4), BAD);
        x.refused("mark(-1, 0)", o -> o.mark(-1, 0), NO);
        x.refused("mark(0, -1)", o -> o.mark(0, -1), NO);
    }

    private static void badWhats(Twins x) {
        for (int number : new int[] {-1, MIN, MAX}) {
            x.refused("type(" + number + ")", o -> o.type(number), BAD);
            x.refused("turn(0, " + number + ")", o -> o.turn(0, number), BAD);
            x.refused("family(0, " + number + ")", o -> o.family(0, number), NO);
            x.refused("now(" + number + ")", o -> o.now(number), NO);
            x.refused("rather(" + number + ")", o -> o.rather(number), BAD);
            x.refused("entry(" + number + ", 0, 0)", o -> o.entry(number, 0, 0), NO);
            x.refused("entry(0, " + number + ", 0)", o -> o.entry(0, number, 0), NO);
            x.refused("entry(0, 0, " + number + ")", o -> o.entry(0, 0, number), NO);
            x.refused("odds(" + number + ", 0)", o -> o.odds(number, 0), BAD);
            x.refused("odds(0, " + number + ")", o -> o.odds(0, number), BAD);
            x.refused("free(" + number + ")", o -> o.free(number), BAD);
            x.refused("keep(" + number + ")", o -> o.keep(number), BAD);
            x.refused("back(" + number + ")", o -> o.back(number), BAD);
            x.refused("count(" + number + ")", o -> o.count(number), BAD);
        }
        x.refused("type(256)", o -> o.type(256), BAD);
        x.refused("turn(0, 3)", o -> o.turn(0, 3), BAD);
        x.refused("family(0, 10)", o -> o.family(0, 10), NO);
        x.refused("now(6)", o -> o.now(6), NO);
        x.refused("rather(2)", o -> o.rather(2), BAD);
        x.refused("entry(21, 0, 0)", o -> o.entry(21, 0, 0), NO);
        x.refused("entry(0, 21, 0)", o -> o.entry(0, 21, 0), NO);
        x.refused("entry(0, 0, 2)", o -> o.entry(0, 0, 2), NO);
        x.refused("odds(11, 0)", o -> o.odds(11, 0), BAD);
        x.refused("odds(0, 2)", o -> o.odds(0, 2), BAD);
        x.refused("free(64)", o -> o.free(64), BAD);
        x.refused("mark(6, 0)", o -> o.mark(6, 0), NO);
        x.refused("keep(2)", o -> o.keep(2), BAD);
        x.refused("back(2)", o -> o.back(2), BAD);
        x.refused("count(6)", o -> o.count(6), BAD);
    }

    /** The first number that is none of the object's own TURNS, FAMILIES. */
    private static void numbersBeyond(Twins x, int turns, int families) {
        x.refused("turn(turns, 0)", o -> o.turn(turns, 0), BAD);
        x.refused("family(families, 0)", o -> o.family(families, 0), NO);
        x.refused("gives(turns, -1)", o -> o.gives(turns, -1), BAD);
        x.refused("gives(0, families)", o -> o.gives(0, families), BAD);
        x.refused("swaps(0, turns)", o -> o.swaps(0, turns), BAD);
        x.refused("swaps(turns, 0)", o -> o.swaps(turns, 0), BAD);
        x.refused("most(turns)", o -> o.most(turns), BAD);
        x.refused("fair(turns)", o -> o.fair(turns), NO);
        x.refused("ways(turns)", o -> o.ways(turns), BAD);
        x.refused("cheese(families)", o -> o.cheese(families), BAD);
        x.refused("saw(turns, 0)", o -> o.saw(turns, 0), BAD);
        x.refused("mark(0, families)", o -> o.mark(0, families), NO);
    }

    // ---- STATE, FULL, FAULT

    private static void winters(Twins x) {
        x.refused("gives(2, 0): a winter", o -> o.gives(2, 0), STATE);
        x.refused("gives(2, -1): a winter", o -> o.gives(2, -1), STATE);
        x.refused("gives(2, 5): BAD ahead of STATE", o -> o.gives(2, 5), BAD);
        x.refused("swaps(0, 2): a winter", o -> o.swaps(0, 2), STATE);
        x.refused("swaps(2, 0): a winter", o -> o.swaps(2, 0), STATE);
        x.refused("swaps(2, 2): BAD ahead of STATE", o -> o.swaps(2, 2), BAD);
        x.refused("swaps(2, 6): BAD ahead of STATE", o -> o.swaps(2, 6), BAD);
        x.refused("saw(2, 0): a winter", o -> o.saw(2, 0), BAD);
    }

    private static void states() {
        ALL_YEARS.refused("year() no. 100", HermitDues::year, STATE);
        for (Twins none : new Twins[] {FRESH, ALL_UNDONE, READ_ANEW}) {
            none.refused("undo() of none", HermitDues::undo, STATE);
            none.refused("back(0): none was kept", o -> o.back(0), STATE);
            none.refused("back(1): none was kept", o -> o.back(1), STATE);
        }
        FEW.refused("back(1): the other was kept", o -> o.back(1), STATE);
        FULL_TEXT.refused("back(0): the other was kept", o -> o.back(0), STATE);
        FRESH.refused("fair(-1): no FAMILIES", o -> o.fair(-1), NO);
        FRESH.refused("now(3): no FAMILIES", o -> o.now(3), NO);
        FRESH.refused("entry(0, 0, 0): no TURNS", o -> o.entry(0, 0, 0), NO);
        Twins winters = twins("winters", () -> Check.told("tww;f1 1 1 1 1;"));
        winters.refused("entry(5, 5, 0): all are winters", o -> o.entry(5, 5, 0), NO);
        winters.refused("entry(5, 5, 1): all are winters", o -> o.entry(5, 5, 1), NO);
    }

    private static void fulls() {
        for (int c : new int[] {0, ' ', ';', 'x', 255}) {
            FULL_TEXT.refused("type(" + c + ")", o -> o.type(c), FULL);
        }
        for (int ribbon = 0; ribbon < 4; ribbon++) {
            int asked = ribbon;
            ALL_SEEN.refused("saw(0, " + ribbon + ")", o -> o.saw(0, asked), FULL);
            ALL_SEEN.refused("saw(5, " + ribbon + ")", o -> o.saw(5, asked), FULL);
        }
    }

    /** Each kind of FAULT, behind ITEMS that could all be read. */
    private static void faults() {
        String good = "twww;f1 1 1 1 1;f2 2 2 2 2;h7;";
        String[] wrong = {"x", "t", "h", "h1;", ";", "1", "100", "01", "?", "T", "f", "f;", "f21", "f1 21", "f1 1 31", "f1 1 1 4", "f1 1 1 1 64",
            "f1 1 1 1 1", "f1 1 1 1 1 ", "f1 1 1 1 1 1", "f100", "f01", "fm"};
        int[] places = {0, 0, 0, 0, 0, 0, 0, 0, 0, 0, -1, 1, 1, 3, 5, 7, 9, -1, -1, 11, 1, 1, 1};
        for (int i = 0; i < wrong.length; i++) {
            int place = good.length() + (places[i] < 0 ? wrong[i].length() : places[i]);
            faulty(good + wrong[i], place);
        }
        faulty("tmmmmmmm;", 7);
        faulty("tmx;", 2);
        faulty("tm", 2);
        faulty("h64;", 1);
        faulty("h1;tm;", 3);
        String family = "f1 1 1 1 1;";
        faulty(family.repeat(6), 55);
    }

    private static void faulty(String text, int place) {
        Supplier<HermitDues> made = () -> {
            HermitDues x = many();
            x.clear();
            Check.type(x, text);
            return x;
        };
        Twins x = twins("with '" + text + "'", made);
        x.refused("grotto()", HermitDues::grotto, -10 - place);
        HermitDues one = made.get();
        one.grotto();
        CHECK.same("clear() after a FAULT of '" + text + "'", one.clear(), text.length());
    }

    // ---- "(Nothing is changed.)", and the questions of the other promises

    private static void questions(Twins x) {
        x.unchanged("most, fair", o -> {
            for (int t = -1; t < 6; t++) {
                o.most(t);
                o.fair(t);
            }
        });
        x.unchanged("rather, entry, odds", o -> {
            for (int what = 0; what < 2; what++) {
                o.rather(what);
                o.entry(20, 0, what);
                o.entry(0, 20, what);
                o.odds(0, what);
                o.odds(7, what);
                o.odds(10, what);
            }
        });
        x.unchanged("ways, cheese, free", o -> {
            for (int t = -1; t < 6; t++) {
                o.ways(t);
                o.cheese(t);
                o.free(t + 20);
            }
        });
        x.unchanged("turn, family, now, count, trace", o -> {
            for (int what = 0; what < 10; what++) {
                o.turn(what % 6, what % 3);
                o.family(what % 5, what);
                o.now(what % 6);
                o.count(what % 6);
                o.trace();
            }
        });
    }
}
