/** Promises 1 to 4 at their bounds: how long THE TEXT may be, which TOKENS can stand where, which place is the FAULT. */
public final class TextBoundsTest {
    private static final Check CHECK = new Check("TextBoundsTest");
    private static final int BAD = HermitDues.BAD;
    private static final int FULL = HermitDues.FULL;
    private static final int NONE = HermitDues.NONE;
    private static final int NO = HermitDues.NO;
    private static final int STATE = HermitDues.STATE;
    private static final String FAMILY = "f0 0 0 0 0;";

    public static void main(String[] args) {
        newObject();
        bytes();
        hundredAndFiftyBytes();
        fullTextIsRead();
        clearing();
        blanks();
        blanksOfOtherKinds();
        everyByteThatBeginsAnItem();
        everyByteAsSeason();
        everyByteAsNumber();
        everyByteAsStop();
        everyByteBehindAnItem();
        seasons();
        yearIsFirst();
        familyCount();
        familyNumbers();
        walks();
        walksOnce();
        numbersAboveNinetyNine();
        zeroAhead();
        firstFaultOnly();
        endsTooEarly();
        withoutYear();
        itemsCounted();
        emptyThen();
        readAnew();
        toldAnew();
        CHECK.end();
    }

    private static int read(String text) {
        HermitDues x = new HermitDues();
        Check.type(x, text);
        return x.grotto();
    }

    private static void reads(String text, int items) {
        CHECK.same("grotto() of '" + text + "'", read(text), items);
    }

    private static void fault(String text, int place) {
        reads(text, -10 - place);
    }

    private static void newObject() {
        CHECK.sentence("As told; no TURNS, nobody.");
        HermitDues x = new HermitDues();
        for (int what = 0; what <= 5; what++) {
            CHECK.same("count(" + what + ")", x.count(what), 0);
        }
        CHECK.same("turn(0, 1)", x.turn(0, 1), BAD);
        CHECK.same("family(0, 0)", x.family(0, 0), NO);
        CHECK.same("gives(0, -1)", x.gives(0, -1), BAD);
        CHECK.same("swaps(0, 1)", x.swaps(0, 1), BAD);
        CHECK.same("most(0)", x.most(0), BAD);
        CHECK.same("ways(0)", x.ways(0), BAD);
        CHECK.same("cheese(0)", x.cheese(0), BAD);
        CHECK.same("saw(0, 0)", x.saw(0, 0), BAD);
        CHECK.same("mark(0, 0)", x.mark(0, 0), NO);
        CHECK.same("undo()", x.undo(), STATE);
        CHECK.same("back(0)", x.back(0), STATE);
        CHECK.same("back(1)", x.back(1), STATE);
        CHECK.same("trace()", x.trace(), 0);
    }

    private static void bytes() {
        CHECK.sentence("A byte (0 .. 255) comes to THE TEXT: how many it has. BAD");
        for (int c : new int[] {-1, 256, -256, 257, 512 + 't', Integer.MIN_VALUE, Integer.MIN_VALUE + 't', Integer.MAX_VALUE}) {
            HermitDues x = new HermitDues();
            CHECK.same("type(" + c + ")", x.type(c), BAD);
            CHECK.same("bytes after type(" + c + ")", x.count(5), 0);
            CHECK.same("the next type after type(" + c + ")", x.type('t'), 1);
        }
        HermitDues x = new HermitDues();
        CHECK.same("type(0)", x.type(0), 1);
        CHECK.same("type(255)", x.type(255), 2);
        for (int c = 0; c < 128; c++) {
            CHECK.same("type(" + c + ")", x.type(c), c + 3);
        }
        HermitDues y = new HermitDues();
        for (int c = 128; c < 256; c++) {
            CHECK.same("type(" + c + ")", y.type(c), c - 127);
        }
    }

    private static void hundredAndFiftyBytes() {
        CHECK.sentence("They are a text (150 bytes at most)");
        HermitDues x = new HermitDues();
        for (int i = 1; i <= 150; i++) {
            CHECK.same("type no. " + i, x.type(' '), i);
        }
        CHECK.same("type no. 151", x.type('x'), FULL);
        CHECK.same("type no. 152", x.type(' '), FULL);
        CHECK.same("bytes", x.count(5), 150);
        CHECK.same("BAD ahead of FULL: type(-1)", x.type(-1), BAD);
        CHECK.same("BAD ahead of FULL: type(256)", x.type(256), BAD);
        CHECK.same("bytes", x.count(5), 150);
        CHECK.same("grotto(): the refused x is not there", x.grotto(), 0);
        CHECK.same("type, once it was read", x.type(' '), 1);
    }

    private static String filled(String first, String last) {
        return first + " ".repeat(150 - first.length() - last.length()) + last;
    }

    private static void fullTextIsRead() {
        CHECK.sentence("150 bytes at most: the last of them counts");
        HermitDues x = new HermitDues();
        Check.type(x, filled("tms;f1 2 3 0 4;", "h63;"));
        CHECK.same("bytes", x.count(5), 150);
        CHECK.same("grotto()", x.grotto(), 3);
        CHECK.same("WALKS", x.count(2), 63);
        fault(filled("tms;", "x"), 149);
        fault(filled("tms;h63;", "h"), 149);
        fault(filled("tms;", "h63"), 150);
        fault(filled("tms;h", ""), 150);
        fault(filled("tm", ""), 150);
        reads(filled("", ""), 0);
        reads(filled("", "t;"), 1);
        fault("t".repeat(150), 1);
        fault("h" + "9".repeat(149), 1);
    }

    private static void clearing() {
        CHECK.sentence("THE TEXT is empty: how many bytes it had.");
        HermitDues x = new HermitDues();
        CHECK.same("clear() of none", x.clear(), 0);
        x.type('t');
        CHECK.same("clear() of one", x.clear(), 1);
        CHECK.same("clear() of none again", x.clear(), 0);
        Check.type(x, "t".repeat(151));
        CHECK.same("clear() of all that fit", x.clear(), 150);
        CHECK.same("bytes", x.count(5), 0);
        CHECK.same("type", x.type(';'), 1);
        CHECK.same("grotto(): nothing of the old text", x.grotto(), -10);
    }

    private static void blanks() {
        CHECK.sentence("blanks (32) between TOKENS");
        reads("tmsw;f1 2 3 0 4;h5;", 3);
        reads("   t  m s   w  ;  f  1   2 3 0   4  ; h   5  ;   ", 3);
        // without a blank two NUMBERS are one
        fault("f12 3 0 3;", 9);
        fault("f1 20 0 3;", 9);
        fault("f1 2 3 04;", 7);
        // a blank parts the digits of one
        fault("h6 3;", 3);
        fault("f1 2 3 0 6 3;", 11);
    }

    private static void blanksOfOtherKinds() {
        CHECK.sentence("blanks (32) between TOKENS: no other byte is one");
        for (int c : new int[] {0, 9, 10, 11, 12, 13, 31, 33, 127, 133, 160, 255}) {
            fault((char) c + "t;", 0);
            fault("t" + (char) c + ";", 1);
            fault("tm;" + (char) c, 3);
            fault("h1" + (char) c + ";", 2);
            fault("f1" + (char) c + "2 3 0 4;", 2);
        }
    }

    private static void everyByteThatBeginsAnItem() {
        CHECK.sentence("a letter that begins no ITEM; of a byte that begins none (no TOKEN), that TOKEN's");
        for (int c = 0; c < 256; c++) {
            boolean begins = c == 't' || c == 'f' || c == 'h';
            reads("" + (char) c, c == ' ' ? 0 : begins ? -11 : -10);
        }
    }

    private static void everyByteAsSeason() {
        CHECK.sentence("t and SEASONS, each a letter m (mild), s (summer), w (winter)");
        for (int c = 0; c < 256; c++) {
            boolean season = c == 'm' || c == 's' || c == 'w';
            reads("t" + (char) c + ";", season || c == ' ' ? 1 : c == ';' ? -12 : -11);
        }
        for (int t = 0; t < 3; t++) {
            CHECK.same("SEASON " + t, Check.told("t" + "msw".charAt(t) + ";").turn(0, 0), t);
        }
    }

    private static void everyByteAsNumber() {
        CHECK.sentence("h N: a TOKEN that can't stand there");
        for (int c = 0; c < 256; c++) {
            boolean digit = c >= '0' && c <= '9';
            reads("h" + (char) c + ";", digit ? 1 : c == ' ' ? -12 : -11);
            if (digit) {
                CHECK.same("WALKS by " + (char) c, Check.told("h" + (char) c + ";").count(2), c - '0');
            }
        }
    }

    private static void everyByteAsStop() {
        CHECK.sentence("ITEMS .. ended by ;");
        for (int c = 0; c < 256; c++) {
            boolean goesOn = c == ' ' || c >= '0' && c <= '9';
            reads("h1" + (char) c, c == ';' ? 1 : goesOn ? -13 : -12);
        }
    }

    private static void everyByteBehindAnItem() {
        CHECK.sentence("a letter that begins no ITEM, t behind another ITEM .. h again");
        for (int c = 0; c < 256; c++) {
            reads("h1;" + (char) c, c == ' ' ? 1 : c == 'f' ? -14 : -13);
        }
    }

    private static void seasons() {
        CHECK.sentence("THE YEAR; 0 to 6 of them; .. a seventh SEASON");
        String six = "mswmsw";
        for (int many = 0; many <= 6; many++) {
            HermitDues x = Check.told("t" + six.substring(0, many) + ";");
            CHECK.same("TURNS of " + many, x.count(0), many);
            CHECK.same("the one behind them", x.turn(many, 0), BAD);
            for (int t = 0; t < many; t++) {
                CHECK.same("SEASON of " + t, x.turn(t, 0), t % 3);
            }
        }
        for (char seventh : "msw".toCharArray()) {
            fault("t" + six + seventh + ";", 7);
            fault("t" + six + "  " + seventh + ";", 9);
            fault("t" + six + seventh, 7);
        }
        fault("t" + six + "mm;", 7);
        fault("t" + six + "t;", 7);
        fault("t" + six + "5;", 7);
        fault("t" + six, 7);
    }

    private static void yearIsFirst() {
        CHECK.sentence("(THE YEAR; ..; the first of all); t behind another ITEM");
        reads("t;h1;", 2);
        fault("h1;t;", 3);
        fault(FAMILY + "t;", 11);
        fault("t;t;", 2);
        fault("t; t;", 3);
        fault("tm;tm;", 3);
        fault("tm;h1;" + FAMILY + "t", 17);
    }

    private static void familyCount() {
        CHECK.sentence("FAMILIES 0 .. (5 of them at most); a sixth family");
        for (int many = 0; many <= 5; many++) {
            HermitDues x = new HermitDues();
            Check.type(x, FAMILY.repeat(many));
            CHECK.same("grotto() of " + many, x.grotto(), many);
            CHECK.same("FAMILIES of " + many, x.count(1), many);
            CHECK.same("the one behind them", x.family(many, 0), NO);
        }
        fault(FAMILY.repeat(6), 55);
        fault(FAMILY.repeat(5) + "f", 55);
        fault(FAMILY.repeat(5) + "  f1", 57);
        fault("tm;" + FAMILY.repeat(3) + "h1;" + FAMILY.repeat(3), 61);
        reads("tm;" + FAMILY.repeat(3) + "h1;" + FAMILY.repeat(2), 7);
    }

    private static void familyNumbers() {
        CHECK.sentence("MILD, SUMMER (0 .. 20 each), DUE (0 .. 30), RIBBON (0 .. 3), H 0 .. 63; a NUMBER beyond what it may be");
        int[] most = {20, 20, 30, 3, 63};
        for (int i = 0; i < 5; i++) {
            for (int number = 0; number <= 101; number++) {
                String text = "f" + "0 ".repeat(i) + number + " 0".repeat(4 - i) + ";";
                if (number > most[i]) {
                    fault(text, 1 + 2 * i);
                    continue;
                }
                HermitDues x = Check.told(text);
                for (int what = 0; what < 5; what++) {
                    CHECK.same("family(0, " + what + ") of '" + text + "'", x.family(0, what), what == i ? number : 0);
                }
            }
        }
        // too few, too many
        fault("f;", 1);
        for (int many = 1; many < 5; many++) {
            fault("f" + "1 ".repeat(many) + ";", 1 + 2 * many);
        }
        reads("f" + "1 ".repeat(5) + ";", 1);
        fault("f" + "1 ".repeat(6) + ";", 11);
    }

    private static void walks() {
        CHECK.sentence("h N (WALKS; 0 .. 63); WALKS: HOURS (bits; 0 at first)");
        CHECK.same("WALKS at first", new HermitDues().count(2), 0);
        CHECK.same("WALKS without h", Check.told("tm;" + FAMILY).count(2), 0);
        for (int number = 0; number <= 63; number++) {
            CHECK.same("WALKS", Check.told("h" + number + ";").count(2), number);
        }
        for (int number = 64; number <= 130; number++) {
            fault("h" + number + ";", 1);
            fault("tm;h " + number, 5);
        }
        fault("h;", 1);
        fault("h1 1;", 3);
    }

    private static void walksOnce() {
        CHECK.sentence("h N (..; once at most); h again");
        reads("h5;", 1);
        fault("h5;h5;", 3);
        fault("h0;h0;", 3);
        fault("h5; h", 4);
        fault("tm;h5;" + FAMILY + "h5;", 17);
        // once a text: not once an object
        HermitDues x = Check.told("h5;");
        Check.type(x, "h6;");
        CHECK.same("grotto() of the next text", x.grotto(), 1);
        CHECK.same("WALKS", x.count(2), 6);
    }

    private static void numbersAboveNinetyNine() {
        CHECK.sentence("a NUMBER above 99 .., that TOKEN's");
        String[] numbers = {"99", "100", "101", "256", "259", "999", "1000", "32768", "65536", "65541", "2147483647", "2147483648",
            "4294967295", "4294967296", "4294967301", "9223372036854775807", "18446744073709551616", "18446744073709551621",
            "1" + "0".repeat(100), "5" + "0".repeat(140)};
        for (String number : numbers) {
            fault("h" + number, 1);
            fault("h  " + number + ";", 3);
        }
        for (String number : new String[] {"99", "100", "4294967296", "42949672970"}) {
            for (int i = 0; i < 5; i++) {
                fault("f" + "0 ".repeat(i) + number + " 0".repeat(4 - i) + ";", 1 + 2 * i);
            }
            fault(number, 0);
            fault("tm;" + number, 3);
            fault("tm" + number + ";", 2);
            fault("h1 " + number + ";", 3);
        }
    }

    private static void zeroAhead() {
        CHECK.sentence("a NUMBER .. with a 0 ahead of others, that TOKEN's");
        reads("h0;", 1);
        reads("h10;", 1);
        reads("f0 10 20 0 60;", 1);
        for (String number : new String[] {"00", "01", "09", "010", "063", "000", "0100", "0".repeat(100) + "1"}) {
            fault("h" + number + ";", 1);
            fault("h" + number, 1);
            for (int i = 0; i < 5; i++) {
                fault("f" + "0 ".repeat(i) + number + " 0".repeat(4 - i) + ";", 1 + 2 * i);
            }
        }
        fault("00", 0);
    }

    private static void firstFaultOnly() {
        CHECK.sentence("FAULT: the place of the first byte of the first TOKEN that can't stand there");
        fault("x y z", 0);
        fault("tmx 100 ?", 2);
        fault("tm ?x", 3);
        fault("f1 2 99 00 ?;", 5);
        fault("h1;  64;", 5);
        fault("tm;;t", 3);
    }

    private static void endsTooEarly() {
        CHECK.sentence("the text's length, if it ends too early");
        String text = " tms w msw ;  f20 9 30 3 63;f1 2 3 0 4 ; h 18 ;f0 0 10 0 0;f5 6 7 1 8;f1 1 1 1 1;  ";
        for (int length = 0; length <= text.length(); length++) {
            String part = text.substring(0, length);
            int items = part.length() - part.replace(";", "").length();
            boolean whole = part.substring(part.lastIndexOf(';') + 1).isBlank();
            reads(part, whole ? items : -10 - length);
        }
    }

    private static void withoutYear() {
        CHECK.sentence("(Without t: no TURNS.)");
        HermitDues x = Check.told("h3;" + FAMILY);
        CHECK.same("TURNS", x.count(0), 0);
        CHECK.same("turn(0, 0)", x.turn(0, 0), BAD);
        Check.tell(x, "tm;");
        CHECK.same("TURNS by t", x.count(0), 1);
        Check.tell(x, FAMILY);
        CHECK.same("TURNS of the next text", x.count(0), 0);
        CHECK.same("turn(0, 0)", x.turn(0, 0), BAD);
    }

    private static void itemsCounted() {
        CHECK.sentence("how many ITEMS");
        reads("", 0);
        reads(" ", 0);
        reads("t;", 1);
        reads("tmmmmmm;", 1);
        reads("tmmmmmm;" + FAMILY.repeat(5), 6);
        reads("tmmmmmm;" + FAMILY.repeat(5) + "h63;", 7);
        reads("tmmmmmm;h63;" + FAMILY.repeat(5), 7);
        fault("tmmmmmm;h63;" + FAMILY.repeat(5) + ";", 67);
    }

    private static void emptyThen() {
        CHECK.sentence("THE TEXT tells all, and is empty then. -10 less FAULT: nothing changes.");
        HermitDues x = new HermitDues();
        Check.type(x, "tms;");
        CHECK.same("grotto()", x.grotto(), 1);
        CHECK.same("bytes", x.count(5), 0);
        CHECK.same("grotto() of the empty text", x.grotto(), 0);
        CHECK.same("TURNS", x.count(0), 0);
        Check.type(x, "tms");
        CHECK.same("grotto() with a FAULT", x.grotto(), -13);
        CHECK.same("bytes stay", x.count(5), 3);
        CHECK.same("what was missing", x.type(';'), 4);
        CHECK.same("grotto() of the whole", x.grotto(), 1);
        CHECK.same("TURNS", x.count(0), 2);
    }

    private static void readAnew() {
        CHECK.sentence("Read anew: as told, nobody is IT, nothing SEEN or to be UNDONE, IMAGES are gone.");
        String text = "tmsm;f6 9 10 1 3;f8 3 4 2 6;h9;";
        for (String next : new String[] {text, "tmsm;f6 9 10 1 3;", "", "tmsmwww;" + FAMILY.repeat(5)}) {
            HermitDues x = Check.told(text);
            Check.years(x, 4);
            Check.give(x, 0, 1, 0);
            Check.years(x, 5);
            x.keep(0);
            x.keep(1);
            for (int i = 0; i < 6; i++) {
                x.saw(0, 1);
            }
            Check.tell(x, next);
            Check.tell(x, text);
            for (int t = 0; t < 3; t++) {
                CHECK.same("turn(" + t + ", 1)", x.turn(t, 1), NONE);
                CHECK.same("turn(" + t + ", 2)", x.turn(t, 2), 0);
            }
            for (int f = 0; f < 2; f++) {
                CHECK.same("TURNS of " + f, x.family(f, 5), 0);
                CHECK.same("STORE of " + f, x.family(f, 8), 0);
                CHECK.same("FORGOTTEN of " + f, x.family(f, 9), 0);
            }
            CHECK.same("YEARS", x.now(0), 0);
            CHECK.same("THE CHEST", x.now(1), 0);
            CHECK.same("SEEN", x.count(3), 0);
            CHECK.same("WAYS by nothing SEEN", x.ways(-1), 17);
            CHECK.same("to be UNDONE", x.count(4), 0);
            CHECK.same("undo()", x.undo(), STATE);
            CHECK.same("back(0)", x.back(0), STATE);
            CHECK.same("back(1)", x.back(1), STATE);
            CHECK.same("saw() after six", x.saw(0, 1), 1);
        }
    }

    /** What is asked hangs on the latest text alone: each one tells less than the one ahead of it. */
    private static void toldAnew() {
        CHECK.sentence("THE TEXT tells all .. Read anew: as told");
        HermitDues x = new HermitDues();
        toldAnew(x, "tmsmsms;f20 20 0 0 63;f20 20 0 0 63;h1;", 120, 60, 239, 2, 1);
        toldAnew(x, "tmm;f9 9 1 0 63;h63;", 13, 12, 3, 0, 63);
        toldAnew(x, "tm;f9 9 3 0 1;f5 5 0 0 1;", 9, 0, 3, 1, 0);
        toldAnew(x, "tw;f9 9 30 0 0;h7;", 0, -30, 1, 0, 7);
        toldAnew(x, "f9 9 4 0 32;", 0, -4, 1, 1, 0);
        toldAnew(x, "tm;", 0, NO, 1, 0, 0);
        toldAnew(x, "h2;", 0, NO, 1, 0, 2);
        toldAnew(x, "", 0, NO, 1, 0, 0);
        toldAnew(x, "tmm;f7 7 0 0 2;f7 7 0 0 2;f7 7 0 0 4;h2;", 14, 0, 13, 1, 2);
    }

    private static void toldAnew(HermitDues x, String text, int most, int fair, int ways, int cheese, int walks) {
        Check.tell(x, text);
        CHECK.same("most(-1) of " + text, x.most(-1), most);
        CHECK.same("fair(-1) of " + text, x.fair(-1), fair);
        CHECK.same("ways(-1) of " + text, x.ways(-1), ways);
        CHECK.same("cheese(-1) of " + text, x.cheese(-1), cheese);
        CHECK.same("WALKS of " + text, x.count(2), walks);
    }
}
