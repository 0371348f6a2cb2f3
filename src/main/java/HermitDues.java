import java.util.Arrays;

/** An anchorite kept by families by subscription. The words in capitals are those of DOC.md. */
public final class HermitDues {
    public static final int BAD = -1, STATE = -2, FULL = -3, NONE = -9;
    public static final int NO = -1000000;

    private static final int MAX_TEXT = 150;
    private static final int MAX_TURNS = 6;
    private static final int MAX_FAMILIES = 5;
    private static final int MAX_SEEN = 6;
    private static final int MAX_UNDOABLE = 10;
    private static final int MAX_YEARS = 99;
    private static final int MAX_JOY = 20;
    private static final int MAX_RIBBON = 3;
    private static final int HOUR_COUNT = 6;
    private static final int ALL_HOURS = 63;
    private static final int IMAGE_COUNT = 2;

    private static final int MILD = 0;
    private static final int WINTER = 2;

    // The numbers of a FAMILY, in the order of the text and of family().
    private static final int MILD_JOY = 0;
    private static final int SUMMER_JOY = 1;
    private static final int DUE = 2;
    private static final int RIBBON = 3;
    private static final int HOURS = 4;
    private static final int NUMBER_COUNT = 5;
    private static final int[] MOST_OF_NUMBER = {20, 20, 30, 3, 63};

    // Nobody is one less than FAMILY 0, so that counting up from it meets all in the document's order.
    private static final int NOBODY = -1;
    // Stands for a TURN or FAMILY where a call asks for the whole.
    private static final int WHOLE = -1;
    private static final int NOT_AT_ALL = -1;

    private static final int KIND_FAMILY = 0;
    private static final int KIND_BUTCHER = 1;
    private static final int KIND_AUNT = 2;
    private static final int KIND_WIFE = 3;
    private static final int KIND_TWELFTH = 4;
    private static final int KIND_CHILD = 5;

    private final Text text = new Text();
    private Told told = new Told();
    // A text is read into this one, so that a FAULT leaves what was told as it is.
    private Told spare = new Told();
    private final Now present = new Now();
    private final Now[] images = {new Now(), new Now()};
    private final boolean[] kept = new boolean[IMAGE_COUNT];
    private final Ribbons ribbons = new Ribbons();
    private final Plans plans = new Plans();
    private final Visits visits = new Visits();
    private final int[] trial = new int[MAX_TURNS];
    private long traced;

    public HermitDues() {
    }

    // ---- the grotto

    public int type(int c) {
        if (c < 0 || c > 255) {
            return BAD;
        }
        if (text.length >= MAX_TEXT) {
            return FULL;
        }
        text.add(c);
        return text.length;
    }

    public int clear() {
        int had = text.length;
        text.length = 0;
        return had;
    }

    public int grotto() {
        int items = text.readInto(spare);
        if (items < 0) {
            return items;
        }
        Told old = told;
        told = spare;
        spare = old;
        text.length = 0;
        beginAnew();
        return items;
    }

    public int turn(int t, int what) {
        if (!told.hasTurn(t)) {
            return BAD;
        }
        switch (what) {
            case 0:
                return told.seasons[t];
            case 1:
                return orNone(present.who[t]);
            case 2:
                return told.joyOfTurn(present.who, t);
            default:
                return BAD;
        }
    }

    public int family(int f, int what) {
        if (!told.hasFamily(f)) {
            return NO;
        }
        if (what >= 0 && what < NUMBER_COUNT) {
            return told.numbers[f][what];
        }
        switch (what) {
            case 5:
                return present.turnsOf(f);
            case 6:
                return told.joyOfFamily(present.who, f);
            case 7:
                return told.leftOfFamily(present.who, f);
            case 8:
                return present.stores[f];
            case 9:
                return present.forgotten[f];
            default:
                return NO;
        }
    }

    // ---- what is done

    public int gives(int t, int f) {
        if (!told.hasTurn(t) || (f != NOBODY && !told.hasFamily(f))) {
            return BAD;
        }
        if (told.isWinter(t)) {
            return STATE;
        }
        int was = present.who[t];
        present.remember();
        present.who[t] = f;
        return orNone(was);
    }

    public int swaps(int a, int b) {
        if (!told.hasTurn(a) || !told.hasTurn(b) || a == b) {
            return BAD;
        }
        if (told.isWinter(a) || told.isWinter(b)) {
            return STATE;
        }
        present.remember();
        exchange(present.who, a, b);
        return told.joyOfAll(present.who);
    }

    public int year() {
        if (present.years >= MAX_YEARS) {
            return STATE;
        }
        present.remember();
        return present.passYear(told);
    }

    public int undo() {
        if (present.undoable <= 0) {
            return STATE;
        }
        present.recall();
        return present.undoable;
    }

    public int now(int what) {
        switch (what) {
            case 0:
                return present.years;
            case 1:
                return present.chest;
            case 2:
                return told.joyOfAll(present.who);
            case 3:
                return told.leastLeft(present.who);
            case 4:
                return familiesWithoutTurn();
            case 5:
                return turnsOfNobody();
            default:
                return NO;
        }
    }

    // ---- turns

    public int most(int t) {
        if (t != WHOLE && !told.hasTurn(t)) {
            return BAD;
        }
        plans.findMost(told);
        return t == WHOLE ? plans.mostJoy() : orNone(plans.mostWay[t]);
    }

    public int fair(int t) {
        if (told.families == 0 || (t != WHOLE && !told.hasTurn(t))) {
            return NO;
        }
        plans.findFair(told);
        return t == WHOLE ? plans.fairLeast : orNone(plans.fairWay[t]);
    }

    public int rather(int what) {
        if (what != 0 && what != 1) {
            return BAD;
        }
        int many = 0;
        int first = NONE;
        for (int a = 0; a < told.turns; a++) {
            for (int b = a + 1; b < told.turns; b++) {
                if (bothWouldRather(a, b)) {
                    first = many == 0 ? 10 * a + b : first;
                    many++;
                }
            }
        }
        return what == 0 ? many : first;
    }

    public int entry(int m, int s, int what) {
        if (m < 0 || m > MAX_JOY || s < 0 || s > MAX_JOY || (what != 0 && what != 1)) {
            return NO;
        }
        int bestTurn = NO;
        int bestJoy = NO;
        for (int t = 0; t < told.turns; t++) {
            if (told.isWinter(t)) {
                continue;
            }
            int joy = joyOfAllBut(t) + (told.seasons[t] == MILD ? m : s);
            if (bestTurn == NO || joy > bestJoy) {
                bestTurn = t;
                bestJoy = joy;
            }
        }
        if (bestTurn == NO) {
            return NO;
        }
        return what == 0 ? bestTurn : bestJoy - told.joyOfAll(present.who);
    }

    public long odds(int x, int what) {
        if (x < 0 || x > 10 || (what != 0 && what != 1)) {
            return BAD;
        }
        int hundredths = 0;
        for (int t = 0; t < told.turns; t++) {
            hundredths += hundredthsOfTurn(t, x);
        }
        int divisor = commonWithHundred(hundredths);
        return what == 0 ? hundredths / divisor : 100 / divisor;
    }

    // ---- ribbons

    public int saw(int t, int ribbon) {
        if (!told.hasTurn(t) || told.isWinter(t) || ribbon < 0 || ribbon > MAX_RIBBON) {
            return BAD;
        }
        if (ribbons.seen >= MAX_SEEN) {
            return FULL;
        }
        ribbons.add(t, ribbon);
        return ribbons.seen;
    }

    public int forget() {
        int had = ribbons.seen;
        ribbons.seen = 0;
        return had;
    }

    public int ways(int t) {
        if (t != WHOLE && !told.hasTurn(t)) {
            return BAD;
        }
        return t == WHOLE ? ribbons.waysInAll(told) : orNone(ribbons.sureOf(told, t));
    }

    // ---- cheese

    public int cheese(int f) {
        if (f != WHOLE && !told.hasFamily(f)) {
            return BAD;
        }
        visits.find(told);
        return f == WHOLE ? visits.bestComing : orNone(visits.bestHours[f]);
    }

    public int free(int w) {
        if (w < 0 || w > ALL_HOURS) {
            return BAD;
        }
        int bits = 0;
        for (int f = 0; f < told.families; f++) {
            if ((told.numbers[f][HOURS] & ~w) != 0) {
                bits |= 1 << f;
            }
        }
        return bits;
    }

    // ---- kinds, images

    public int mark(int kind, int f) {
        if (!told.hasFamily(f)) {
            return NO;
        }
        switch (kind) {
            case KIND_FAMILY:
                return asFamily(f);
            case KIND_BUTCHER:
                return asButcher(f);
            case KIND_AUNT:
                return asAunt(f);
            case KIND_WIFE:
                return asWife(f);
            case KIND_TWELFTH:
                return asTwelfth(f);
            case KIND_CHILD:
                return asChild(f);
            default:
                return NO;
        }
    }

    public int keep(int image) {
        if (image < 0 || image >= IMAGE_COUNT) {
            return BAD;
        }
        images[image].become(present);
        kept[image] = true;
        return present.years;
    }

    public int back(int image) {
        if (image < 0 || image >= IMAGE_COUNT) {
            return BAD;
        }
        if (!kept[image]) {
            return STATE;
        }
        present.become(images[image]);
        return present.years;
    }

    public int count(int what) {
        switch (what) {
            case 0:
                return told.turns;
            case 1:
                return told.families;
            case 2:
                return told.walks;
            case 3:
                return ribbons.seen;
            case 4:
                return present.undoable;
            case 5:
                return text.length;
            default:
                return BAD;
        }
    }

    public long trace() {
        return traced;
    }

    // ---- what the calls share

    /** THE TRACE alone goes on: it is no part of what a text tells, and no promise empties it. */
    private void beginAnew() {
        present.begin();
        ribbons.seen = 0;
        plans.begin();
        visits.begin();
        for (int image = 0; image < IMAGE_COUNT; image++) {
            kept[image] = false;
        }
    }

    private static int orNone(int number) {
        return number < 0 ? NONE : number;
    }

    private static void exchange(int[] who, int a, int b) {
        int held = who[a];
        who[a] = who[b];
        who[b] = held;
    }

    private int familiesWithoutTurn() {
        int bits = 0;
        for (int f = 0; f < told.families; f++) {
            if (present.turnsOf(f) == 0) {
                bits |= 1 << f;
            }
        }
        return bits;
    }

    private int turnsOfNobody() {
        int bits = 0;
        for (int t = 0; t < told.turns; t++) {
            if (present.who[t] == NOBODY) {
                bits |= 1 << t;
            }
        }
        return bits;
    }

    /** No test for winters: nobody is IT in them, and nobody would rather exchange. */
    private boolean bothWouldRather(int a, int b) {
        int f = present.who[a];
        int g = present.who[b];
        if (f == NOBODY || g == NOBODY || f == g) {
            return false;
        }
        System.arraycopy(present.who, 0, trial, 0, MAX_TURNS);
        exchange(trial, a, b);
        return told.joyOfFamily(trial, f) > told.joyOfFamily(present.who, f)
            && told.joyOfFamily(trial, g) > told.joyOfFamily(present.who, g);
    }

    private int joyOfAllBut(int t) {
        System.arraycopy(present.who, 0, trial, 0, MAX_TURNS);
        trial[t] = NOBODY;
        return told.joyOfAll(trial);
    }

    /** A TURN whose FAMILY was IT just ahead is halved only if HE did not forget then, either. */
    private int hundredthsOfTurn(int t, int x) {
        int f = present.who[t];
        int ahead = Told.aheadOf(present.who, t);
        int knows = 10 - x;
        int afterKnown = told.joy(t, f, ahead);
        int afterForgotten = told.joy(t, f, NOBODY);
        return knows * (knows * afterKnown + x * afterForgotten);
    }

    private static int commonWithHundred(int number) {
        for (int divisor = 100; divisor > 1; divisor--) {
            if (100 % divisor == 0 && number % divisor == 0) {
                return divisor;
            }
        }
        return 1;
    }

    // The bodies of the KINDS: each asks that of the KIND above it once, so THE TRACE counts both.

    private int asFamily(int f) {
        traced += 1;
        return told.joyOfFamily(present.who, f);
    }

    private int asButcher(int f) {
        traced += 10;
        return asFamily(f) + Integer.bitCount(present.turnsOf(f));
    }

    private int asAunt(int f) {
        traced += 100;
        return asFamily(f) - told.numbers[f][DUE];
    }

    private int asWife(int f) {
        traced += 1000;
        return asButcher(f) * 2;
    }

    private int asTwelfth(int f) {
        traced += 10000;
        return asAunt(f) + present.forgotten[f];
    }

    private int asChild(int f) {
        traced += 100000;
        return asFamily(f) + present.years;
    }

    /** What a text has told: the TURNS, the FAMILIES, the WALKS; and JOY, which follows from them and who is IT. */
    private static final class Told {
        final int[] seasons = new int[MAX_TURNS];
        int turns;
        final int[][] numbers = new int[MAX_FAMILIES][NUMBER_COUNT];
        int families;
        int walks;
        boolean walksTold;

        void begin() {
            turns = 0;
            families = 0;
            walks = 0;
            walksTold = false;
        }

        boolean hasTurn(int t) {
            return t >= 0 && t < turns;
        }

        boolean hasFamily(int f) {
            return f >= 0 && f < families;
        }

        boolean isWinter(int t) {
            return seasons[t] == WINTER;
        }

        /** The last of those who may be IT, counted from NOBODY. */
        int lastWhoMayBe(int t) {
            return isWinter(t) ? NOBODY : families - 1;
        }

        int joy(int t, int f, int ahead) {
            if (!hasFamily(f) || isWinter(t)) {
                return 0;
            }
            int whole = numbers[f][seasons[t] == MILD ? MILD_JOY : SUMMER_JOY];
            return f == ahead ? whole / 2 : whole;
        }

        static int aheadOf(int[] who, int t) {
            return t > 0 ? who[t - 1] : NOBODY;
        }

        int joyOfTurn(int[] who, int t) {
            return joy(t, who[t], aheadOf(who, t));
        }

        int joyOfAll(int[] who) {
            int joy = 0;
            for (int t = 0; t < turns; t++) {
                joy += joyOfTurn(who, t);
            }
            return joy;
        }

        int joyOfFamily(int[] who, int f) {
            int joy = 0;
            for (int t = 0; t < turns; t++) {
                if (who[t] == f) {
                    joy += joyOfTurn(who, t);
                }
            }
            return joy;
        }

        int leftOfFamily(int[] who, int f) {
            return joyOfFamily(who, f) - numbers[f][DUE];
        }

        /** NO: no FAMILIES. */
        int leastLeft(int[] who) {
            int least = NO;
            for (int f = 0; f < families; f++) {
                int left = leftOfFamily(who, f);
                least = f == 0 ? left : Math.min(least, left);
            }
            return least;
        }
    }

    /** THE TEXT, and how it is read TOKEN by TOKEN. */
    private static final class Text {
        private static final int END = 0;
        private static final int LETTER = 1;
        private static final int NUMBER = 2;
        private static final int STOP = 3;
        private static final int WRONG = 4;
        private static final int MAX_NUMBER = 99;
        private static final int FAULT_BASE = -10;

        private final int[] bytes = new int[MAX_TEXT];
        int length;
        private int place;
        // The TOKEN that is looked at: where it begins (the FAULT, if it can't stand there), what it is.
        private int start;
        private int token;
        private int value;

        void add(int c) {
            if (length < MAX_TEXT) {
                bytes[length] = c;
                length++;
            }
        }

        /** How many ITEMS, or -10 less FAULT: then told holds the part that was read. */
        int readInto(Told told) {
            told.begin();
            place = 0;
            int items = 0;
            next();
            while (token != END && items < MAX_TEXT) {
                if (!readItem(told, items)) {
                    return FAULT_BASE - start;
                }
                items++;
            }
            return items;
        }

        /** These answer whether all could stand where it does; if not, the TOKEN looked at is the wrong one. */
        private boolean readItem(Told told, int itemsBefore) {
            if (token != LETTER) {
                return false;
            }
            switch (value) {
                case 't':
                    return itemsBefore == 0 && readYear(told);
                case 'f':
                    return told.families < MAX_FAMILIES && readFamily(told);
                case 'h':
                    return !told.walksTold && readWalks(told);
                default:
                    return false;
            }
        }

        private boolean readYear(Told told) {
            next();
            while (token == LETTER && told.turns < MAX_TURNS) {
                int season = seasonOf(value);
                if (season < 0) {
                    return false;
                }
                told.seasons[told.turns] = season;
                told.turns++;
                next();
            }
            return readStop();
        }

        private boolean readFamily(Told told) {
            for (int i = 0; i < NUMBER_COUNT; i++) {
                next();
                if (token != NUMBER || value > MOST_OF_NUMBER[i]) {
                    return false;
                }
                told.numbers[told.families][i] = value;
            }
            told.families++;
            next();
            return readStop();
        }

        private boolean readWalks(Told told) {
            next();
            if (token != NUMBER || value > ALL_HOURS) {
                return false;
            }
            told.walks = value;
            told.walksTold = true;
            next();
            return readStop();
        }

        private boolean readStop() {
            if (token != STOP) {
                return false;
            }
            next();
            return true;
        }

        private static int seasonOf(int letter) {
            switch (letter) {
                case 'm':
                    return 0;
                case 's':
                    return 1;
                case 'w':
                    return 2;
                default:
                    return -1;
            }
        }

        private void next() {
            while (place < length && bytes[place] == ' ') {
                place++;
            }
            start = place;
            if (place >= length) {
                token = END;
                return;
            }
            value = bytes[place];
            if (isDigit(value)) {
                nextNumber();
                return;
            }
            place++;
            if (value == ';') {
                token = STOP;
            } else {
                token = value >= 'a' && value <= 'z' ? LETTER : WRONG;
            }
        }

        private void nextNumber() {
            boolean zeroAhead = value == '0';
            value = 0;
            while (place < length && isDigit(bytes[place])) {
                // Held just above what is allowed, so that a long row of digits can't wrap around.
                value = Math.min(value * 10 + bytes[place] - '0', MAX_NUMBER + 1);
                place++;
            }
            boolean zeroAheadOfOthers = zeroAhead && place - start > 1;
            token = value > MAX_NUMBER || zeroAheadOfOthers ? WRONG : NUMBER;
        }

        private static boolean isDigit(int c) {
            return c >= '0' && c <= '9';
        }
    }

    /** What an IMAGE keeps: who is IT when, STORES, THE CHEST, YEARS, the FORGOTTEN, what may be UNDONE. */
    private static final class Now {
        // A row of the past: who, stores, forgotten, chest, years, one behind the other.
        private static final int STORES_AT = MAX_TURNS;
        private static final int FORGOTTEN_AT = STORES_AT + MAX_FAMILIES;
        private static final int CHEST_AT = FORGOTTEN_AT + MAX_FAMILIES;
        private static final int YEARS_AT = CHEST_AT + 1;
        private static final int ROW = YEARS_AT + 1;

        final int[] who = {NOBODY, NOBODY, NOBODY, NOBODY, NOBODY, NOBODY};
        final int[] stores = new int[MAX_FAMILIES];
        final int[] forgotten = new int[MAX_FAMILIES];
        int chest;
        int years;
        // Rows, the oldest first.
        private final int[] past = new int[MAX_UNDOABLE * ROW];
        int undoable;

        void begin() {
            Arrays.fill(who, NOBODY);
            Arrays.fill(stores, 0);
            Arrays.fill(forgotten, 0);
            chest = 0;
            years = 0;
            undoable = 0;
        }

        void become(Now other) {
            System.arraycopy(other.who, 0, who, 0, MAX_TURNS);
            System.arraycopy(other.stores, 0, stores, 0, MAX_FAMILIES);
            System.arraycopy(other.forgotten, 0, forgotten, 0, MAX_FAMILIES);
            chest = other.chest;
            years = other.years;
            System.arraycopy(other.past, 0, past, 0, MAX_UNDOABLE * ROW);
            undoable = other.undoable;
        }

        void remember() {
            if (undoable >= MAX_UNDOABLE) {
                undoable = MAX_UNDOABLE - 1;
                System.arraycopy(past, ROW, past, 0, undoable * ROW);
            }
            int at = undoable * ROW;
            System.arraycopy(who, 0, past, at, MAX_TURNS);
            System.arraycopy(stores, 0, past, at + STORES_AT, MAX_FAMILIES);
            System.arraycopy(forgotten, 0, past, at + FORGOTTEN_AT, MAX_FAMILIES);
            past[at + CHEST_AT] = chest;
            past[at + YEARS_AT] = years;
            undoable++;
        }

        void recall() {
            if (undoable <= 0) {
                return;
            }
            undoable--;
            int at = undoable * ROW;
            System.arraycopy(past, at, who, 0, MAX_TURNS);
            System.arraycopy(past, at + STORES_AT, stores, 0, MAX_FAMILIES);
            System.arraycopy(past, at + FORGOTTEN_AT, forgotten, 0, MAX_FAMILIES);
            chest = past[at + CHEST_AT];
            years = past[at + YEARS_AT];
        }

        /** TURNS in which a FAMILY is IT, as bits. */
        int turnsOf(int f) {
            int bits = 0;
            for (int t = 0; t < MAX_TURNS; t++) {
                if (who[t] == f) {
                    bits |= 1 << t;
                }
            }
            return bits;
        }

        /** How many were FORGOTTEN in it. */
        int passYear(Told told) {
            int forgottenNow = 0;
            for (int f = 0; f < told.families; f++) {
                stores[f] += told.leftOfFamily(who, f);
                chest += told.numbers[f][DUE];
                if (turnsOf(f) == 0) {
                    forgotten[f]++;
                    forgottenNow++;
                }
            }
            years++;
            return forgottenNow;
        }
    }

    /** MOST and FAIR. They hang on what was told alone, so each is found once and kept until a text is read anew. */
    private static final class Plans {
        // By a TURN and who is IT ahead of it (NOBODY at 0): the most JOY of that TURN and all behind it.
        private final int[][] mostFrom = new int[MAX_TURNS + 1][MAX_FAMILIES + 1];
        final int[] mostWay = new int[MAX_TURNS];
        private boolean mostFound;

        final int[] fairWay = new int[MAX_TURNS];
        int fairLeast;
        private int fairJoy;
        private boolean fairFound;
        private final int[] way = new int[MAX_TURNS];
        // By a FAMILY: its LEFT by the TURNS of way that are given so far.
        private final int[] lefts = new int[MAX_FAMILIES];
        // By a TURN: how many from it on are no winters; by a FAMILY, too: its JOY of all these, none halved.
        private final int[] openFrom = new int[MAX_TURNS + 1];
        private final int[][] wholeFrom = new int[MAX_TURNS + 1][MAX_FAMILIES];

        void begin() {
            mostFound = false;
            fairFound = false;
        }

        int mostJoy() {
            return mostFrom[0][0];
        }

        void findMost(Told told) {
            if (mostFound) {
                return;
            }
            Arrays.fill(mostFrom[told.turns], 0);
            for (int t = told.turns - 1; t >= 0; t--) {
                for (int ahead = NOBODY; ahead < told.families; ahead++) {
                    int f = firstBest(told, t, ahead);
                    mostFrom[t][ahead + 1] = joyFrom(told, t, f, ahead);
                }
            }
            int ahead = NOBODY;
            for (int t = 0; t < told.turns; t++) {
                ahead = firstBest(told, t, ahead);
                mostWay[t] = ahead;
            }
            mostFound = true;
        }

        private int firstBest(Told told, int t, int ahead) {
            int best = NOBODY;
            int bestJoy = joyFrom(told, t, NOBODY, ahead);
            for (int f = 0; f <= told.lastWhoMayBe(t); f++) {
                int joy = joyFrom(told, t, f, ahead);
                if (joy > bestJoy) {
                    best = f;
                    bestJoy = joy;
                }
            }
            return best;
        }

        private int joyFrom(Told told, int t, int f, int ahead) {
            return told.joy(t, f, ahead) + mostFrom[t + 1][f + 1];
        }

        void findFair(Told told) {
            if (fairFound) {
                return;
            }
            findMost(told);
            lookAhead(told);
            for (int f = 0; f < told.families; f++) {
                lefts[f] = -told.numbers[f][DUE];
            }
            fairLeast = NO;
            fairJoy = NO;
            tryFrom(told, 0, NOBODY, 0);
            fairFound = true;
        }

        private void lookAhead(Told told) {
            openFrom[told.turns] = 0;
            Arrays.fill(wholeFrom[told.turns], 0);
            for (int t = told.turns - 1; t >= 0; t--) {
                openFrom[t] = openFrom[t + 1] + (told.isWinter(t) ? 0 : 1);
                for (int f = 0; f < told.families; f++) {
                    wholeFrom[t][f] = wholeFrom[t + 1][f] + told.joy(t, f, NOBODY);
                }
            }
        }

        /** Goes through the ways in the document's order, so the first of several equal ones stays. */
        private void tryFrom(Told told, int t, int ahead, int joySoFar) {
            if (t > MAX_TURNS || !mayBeFairer(told, t, joySoFar + mostFrom[t][ahead + 1])) {
                return;
            }
            if (t >= told.turns) {
                System.arraycopy(way, 0, fairWay, 0, MAX_TURNS);
                fairLeast = leastOfLefts(told);
                fairJoy = joySoFar;
                return;
            }
            way[t] = NOBODY;
            tryFrom(told, t + 1, NOBODY, joySoFar);
            for (int f = 0; f <= told.lastWhoMayBe(t); f++) {
                int joy = told.joy(t, f, ahead);
                way[t] = f;
                lefts[f] += joy;
                tryFrom(told, t + 1, f, joySoFar + joy);
                lefts[f] -= joy;
            }
        }

        /** Whether a way that begins so could be better than the best yet: exact, once all TURNS are given. */
        private boolean mayBeFairer(Told told, int t, int joyWithin) {
            return mayAllHave(told, t, joyWithin > fairJoy ? fairLeast : fairLeast + 1);
        }

        /** A TURN lifts one FAMILY alone, and by no more than its whole JOY: what no way can reach is not tried. */
        private boolean mayAllHave(Told told, int t, int wanted) {
            int below = 0;
            for (int f = 0; f < told.families; f++) {
                if (lefts[f] < wanted) {
                    below++;
                    if (lefts[f] + wholeFrom[t][f] < wanted) {
                        return false;
                    }
                }
            }
            return below <= openFrom[t];
        }

        private int leastOfLefts(Told told) {
            int least = lefts[0];
            for (int f = 1; f < told.families; f++) {
                least = Math.min(least, lefts[f]);
            }
            return least;
        }
    }

    /** What was SEEN, and the WAYS that agree with it. */
    private static final class Ribbons {
        private final int[] turnSeen = new int[MAX_SEEN];
        private final int[] ribbonSeen = new int[MAX_SEEN];
        int seen;
        // By who is IT in the TURN reached (NOBODY at 0): the WAYS that end so.
        private final int[] ending = new int[MAX_FAMILIES + 1];
        private final int[] endingNext = new int[MAX_FAMILIES + 1];

        void add(int t, int ribbon) {
            if (seen < MAX_SEEN) {
                turnSeen[seen] = t;
                ribbonSeen[seen] = ribbon;
                seen++;
            }
        }

        int waysInAll(Told told) {
            return waysWith(told, NOBODY, NOBODY);
        }

        /** Who is IT in a TURN in all WAYS; NOBODY: none is sure. */
        int sureOf(Told told, int t) {
            int all = waysInAll(told);
            if (all == 0) {
                return NOBODY;
            }
            for (int f = 0; f < told.families; f++) {
                if (waysWith(told, t, f) == all) {
                    return f;
                }
            }
            return NOBODY;
        }

        /** WAYS in which a FAMILY is IT in a TURN (a TURN below 0: all of them). */
        private int waysWith(Told told, int turn, int family) {
            Arrays.fill(ending, 0);
            ending[0] = 1;
            for (int t = 0; t < told.turns; t++) {
                int all = sumOf(ending);
                Arrays.fill(endingNext, 0);
                for (int f = NOBODY; f <= told.lastWhoMayBe(t); f++) {
                    if (agrees(told, t, f) && (t != turn || f == family)) {
                        endingNext[f + 1] = f == NOBODY ? all : all - ending[f + 1];
                    }
                }
                System.arraycopy(endingNext, 0, ending, 0, MAX_FAMILIES + 1);
            }
            return sumOf(ending);
        }

        private boolean agrees(Told told, int t, int f) {
            for (int i = 0; i < seen; i++) {
                if (turnSeen[i] == t && (f == NOBODY || told.numbers[f][RIBBON] != ribbonSeen[i])) {
                    return false;
                }
            }
            return true;
        }

        private static int sumOf(int[] parts) {
            int sum = 0;
            for (int part : parts) {
                sum += part;
            }
            return sum;
        }
    }

    /** CHEESE. It hangs on what was told alone, so it is found once and kept until a text is read anew. */
    private static final class Visits {
        final int[] bestHours = new int[MAX_FAMILIES];
        int bestComing;
        private boolean found;
        private final int[] hours = new int[MAX_FAMILIES];

        void begin() {
            found = false;
        }

        void find(Told told) {
            if (found) {
                return;
            }
            bestComing = NO;
            tryFrom(told, 0, told.walks, 0);
            found = true;
        }

        /** Goes through the ways in the document's order, so the first of several equal ones stays. */
        private void tryFrom(Told told, int f, int taken, int coming) {
            if (f > MAX_FAMILIES || coming + told.families - f <= bestComing) {
                return;
            }
            if (f >= told.families) {
                System.arraycopy(hours, 0, bestHours, 0, MAX_FAMILIES);
                bestComing = coming;
                return;
            }
            int open = told.numbers[f][HOURS] & ~taken;
            for (int hour = 0; hour < HOUR_COUNT; hour++) {
                if ((open & 1 << hour) != 0) {
                    hours[f] = hour;
                    tryFrom(told, f + 1, taken | 1 << hour, coming + 1);
                }
            }
            hours[f] = NOT_AT_ALL;
            tryFrom(told, f + 1, taken, coming);
        }
    }
}
