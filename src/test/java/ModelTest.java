import java.util.Random;

/** All promises: long runs of calls, the same ones every time, against the plain Model of the document. */
public final class ModelTest {
    private static final Check CHECK = new Check("ModelTest");
    private static final int RUNS = 2000;
    // nothing is promised of an object behind its 512th call
    private static final int CALLS = 512;
    // more calls than any text takes to be told
    private static final int TO_TELL = 200;
    private static final int TEXTS = 20000;
    private static final String NOISE = "tmswfh;; 0123456789x\tT-";

    private final Random random;
    private final HermitDues x = new HermitDues();
    private final Model model = new Model();
    private final String run;
    private final int mostTurns;
    private final int mostFamilies;
    private final int mostNumber;
    private int calls;

    private ModelTest(int run) {
        this.run = "run " + run + ": ";
        random = new Random(run);
        // ways grow as families to the power of turns: most runs stay small
        boolean large = run % 10 == 0;
        mostTurns = large ? 6 : 4;
        mostFamilies = large ? 5 : 3;
        // small numbers make many ways equal, so that the order among them counts
        mostNumber = 1 + random.nextInt(random.nextBoolean() ? 4 : 40);
    }

    public static void main(String[] args) {
        for (int run = 0; run < RUNS && CHECK.allRight(); run++) {
            new ModelTest(run).go();
        }
        for (int i = 0; i < TEXTS && CHECK.allRight(); i++) {
            new ModelTest(i).readOne();
        }
        CHECK.end();
    }

    private void go() {
        tell(text());
        // a step asks two at most
        while (calls < CALLS - 1 && CHECK.allRight()) {
            step();
        }
    }

    private void readOne() {
        String text = random.nextInt(3) == 0 ? noise() : text();
        for (int i = random.nextInt(3); i > 0; i--) {
            text = spoiled(text);
        }
        tell(text);
        for (int what = 0; what < 6; what++) {
            same("count(" + what + ") after '" + text + "'", x.count(what), model.count(what));
        }
        for (int t = 0; t < 6; t++) {
            same("turn(" + t + ", 0) after '" + text + "'", x.turn(t, 0), model.turn(t, 0));
        }
        for (int f = 0; f < 5; f++) {
            for (int what = 0; what < 5; what++) {
                same("family(" + f + ", " + what + ") after '" + text + "'", x.family(f, what), model.family(f, what));
            }
        }
    }

    private void same(String call, long got, long due) {
        calls++;
        CHECK.same(run + "call " + calls + ": " + call, got, due);
    }

    private void tell(String text) {
        for (int i = 0; i < text.length(); i++) {
            same("type", x.type(text.charAt(i)), model.type(text.charAt(i)));
        }
        same("grotto() of '" + text + "'", x.grotto(), model.grotto());
    }

    private int upTo(int most) {
        return random.nextInt(most + 1);
    }

    private String text() {
        StringBuilder s = new StringBuilder();
        if (upTo(9) > 0) {
            s.append(blank()).append('t');
            for (int t = upTo(mostTurns); t > 0; t--) {
                s.append(blank()).append("msmsw".charAt(upTo(4)));
            }
            s.append(blank()).append(';');
        }
        int families = upTo(mostFamilies);
        int walksAt = upTo(mostFamilies + 2);
        for (int f = 0; f <= families; f++) {
            if (f == walksAt) {
                s.append('h').append(blank()).append(random.nextInt(64)).append(blank()).append(';');
            }
            if (f < families) {
                s.append(blank()).append('f').append(blank()).append(number(20)).append(' ').append(number(20)).append(' ')
                    .append(number(30)).append(' ').append(upTo(3)).append(' ').append(random.nextInt(64)).append(blank()).append(';');
            }
        }
        return s.toString();
    }

    private int number(int most) {
        return upTo(Math.min(most, mostNumber));
    }

    private String blank() {
        return upTo(9) == 0 ? " " : "";
    }

    private String noise() {
        StringBuilder s = new StringBuilder();
        for (int i = upTo(12); i > 0; i--) {
            s.append(NOISE.charAt(random.nextInt(NOISE.length())));
        }
        return s.toString();
    }

    private String spoiled(String text) {
        int at = upTo(text.length());
        String extra = random.nextBoolean() ? "" : "" + NOISE.charAt(random.nextInt(NOISE.length()));
        int cut = Math.min(text.length(), at + upTo(1));
        return random.nextInt(5) == 0 ? text.substring(0, at) : text.substring(0, at) + extra + text.substring(cut);
    }

    /** A number about 0 .. most, now and then just or far beyond. */
    private int about(int most) {
        int luck = random.nextInt(60);
        if (luck == 0) {
            return random.nextInt();
        }
        return luck < 5 ? most + 1 : luck < 10 ? -1 : random.nextInt(most + 1);
    }

    private int turn() {
        return about(Math.max(0, model.count(0) - 1));
    }

    private int family() {
        return about(Math.max(0, model.count(1) - 1));
    }

    private void step() {
        int kind = random.nextInt(100);
        if (kind < 2 && calls < CALLS - TO_TELL) {
            read();
        } else if (kind < 45) {
            act();
        } else if (kind < 70) {
            look();
        } else {
            ask();
        }
    }

    private void read() {
        int luck = random.nextInt(8);
        if (luck == 0) {
            same("clear()", x.clear(), model.clear());
        } else if (luck < 5) {
            int c = about(255);
            same("type(" + c + ")", x.type(c), model.type(c));
        } else {
            same("clear()", x.clear(), model.clear());
            tell(luck == 5 ? text() : spoiled(text()));
        }
    }

    private void act() {
        int a = turn();
        int b = turn();
        int f = family();
        int luck = random.nextInt(20);
        if (luck < 8) {
            same("gives(" + a + ", " + f + ")", x.gives(a, f), model.gives(a, f));
        } else if (luck < 11) {
            same("swaps(" + a + ", " + b + ")", x.swaps(a, b), model.swaps(a, b));
        } else if (luck < 14) {
            same("year()", x.year(), model.year());
        } else if (luck < 16) {
            same("undo()", x.undo(), model.undo());
        } else if (luck == 16) {
            int ribbon = about(3);
            same("saw(" + a + ", " + ribbon + ")", x.saw(a, ribbon), model.saw(a, ribbon));
        } else if (luck == 17) {
            boolean all = random.nextInt(4) == 0;
            same("forget()", all ? x.forget() : 0, all ? model.forget() : 0);
        } else {
            int image = about(1);
            boolean keep = luck == 18;
            same("keep or back(" + image + ")", keep ? x.keep(image) : x.back(image), keep ? model.keep(image) : model.back(image));
        }
    }

    private void look() {
        int t = turn();
        int f = family();
        int what = about(9);
        switch (random.nextInt(6)) {
            case 0:
                what = about(2);
                same("turn(" + t + ", " + what + ")", x.turn(t, what), model.turn(t, what));
                break;
            case 1:
                what = about(5);
                same("now(" + what + ")", x.now(what), model.now(what));
                break;
            case 2:
                what = about(5);
                same("count(" + what + ")", x.count(what), model.count(what));
                break;
            case 3:
                what = about(5);
                same("mark(" + what + ", " + f + ")", x.mark(what, f), model.mark(what, f));
                same("trace()", x.trace(), model.trace());
                break;
            default:
                same("family(" + f + ", " + what + ")", x.family(f, what), model.family(f, what));
                break;
        }
    }

    private void ask() {
        int t = turn();
        int f = family();
        int what = about(1);
        int m = about(20);
        int s = about(20);
        int odd = about(10);
        int w = about(63);
        switch (random.nextInt(8)) {
            case 0:
                same("most(" + t + ")", x.most(t), model.most(t));
                break;
            case 1:
                same("fair(" + t + ")", x.fair(t), model.fair(t));
                break;
            case 2:
                same("rather(" + what + ")", x.rather(what), model.rather(what));
                break;
            case 3:
                same("entry(" + m + ", " + s + ", " + what + ")", x.entry(m, s, what), model.entry(m, s, what));
                break;
            case 4:
                same("odds(" + odd + ", " + what + ")", x.odds(odd, what), model.odds(odd, what));
                break;
            case 5:
                same("ways(" + t + ")", x.ways(t), model.ways(t));
                break;
            case 6:
                same("cheese(" + f + ")", x.cheese(f), model.cheese(f));
                break;
            default:
                same("free(" + w + ")", x.free(w), model.free(w));
                break;
        }
    }
}
