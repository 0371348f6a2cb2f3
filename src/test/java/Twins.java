import java.util.Arrays;
import java.util.function.Consumer;
import java.util.function.Supplier;
import java.util.function.ToLongFunction;

/**
 * Two objects of the same past, one of which has had a call more that may change nothing: both are asked the same,
 * also for what can be seen only by using it up (the past, IMAGES, THE TEXT, what was SEEN).
 */
final class Twins {
    private static final int MOST_CALLS = 512;
    private final Check check;
    private final String name;
    private final Supplier<HermitDues> made;

    Twins(Check check, String name, Supplier<HermitDues> made) {
        this.check = check;
        this.name = name;
        this.made = made;
    }

    /** The call is answered as due, and nothing has changed behind it. */
    void refused(String call, ToLongFunction<HermitDues> of, long due) {
        check.same(name + ": " + call, of.applyAsLong(made.get()), due);
        unchanged(call, x -> {
            of.applyAsLong(x);
            of.applyAsLong(x);
        });
    }

    void unchanged(String call, Consumer<HermitDues> of) {
        for (Probe probe : Probe.values()) {
            HermitDues one = made.get();
            of.accept(one);
            long[] got = probe.answers(one);
            long[] due = probe.answers(made.get());
            check.same(name + ": answers to " + probe + " after " + call, got.length, due.length);
            for (int i = 0; i < due.length && i < got.length; i++) {
                check.same(name + ": answer no. " + i + " to " + probe + " after " + call, got[i], due[i]);
            }
        }
    }

    /** What is asked of both. */
    private enum Probe {
        QUESTIONS, MARKS, PAST, IMAGE_0, IMAGE_1, TEXT, SEEN;

        long[] answers(HermitDues x) {
            Answers a = new Answers();
            switch (this) {
                case QUESTIONS:
                    told(x, a);
                    present(x, a);
                    plans(x, a);
                    break;
                case MARKS:
                    marks(x, a);
                    break;
                case PAST:
                    past(x, a);
                    break;
                case IMAGE_0:
                    a.add(x.back(0));
                    past(x, a);
                    break;
                case IMAGE_1:
                    a.add(x.back(1));
                    past(x, a);
                    break;
                case TEXT:
                    a.add(x.count(5));
                    a.add(x.grotto());
                    told(x, a);
                    present(x, a);
                    break;
                default:
                    seen(x, a);
                    break;
            }
            return a.all();
        }

        private static void told(HermitDues x, Answers a) {
            for (int what = 0; what < 6; what++) {
                a.add(x.count(what));
            }
            for (int t = 0; t < 6; t++) {
                a.add(x.turn(t, 0));
            }
            for (int f = 0; f < 5; f++) {
                for (int what = 0; what < 5; what++) {
                    a.add(x.family(f, what));
                }
            }
        }

        private static void present(HermitDues x, Answers a) {
            for (int what = 0; what < 6; what++) {
                a.add(x.now(what));
            }
            for (int t = 0; t < 6; t++) {
                a.add(x.turn(t, 1));
            }
            for (int f = 0; f < 5; f++) {
                a.add(x.family(f, 8));
                a.add(x.family(f, 9));
            }
            a.add(x.count(4));
        }

        private static void plans(HermitDues x, Answers a) {
            for (int t = -1; t < 6; t++) {
                a.add(x.most(t));
                a.add(x.fair(t));
                a.add(x.ways(t));
                a.add(x.cheese(t));
            }
            a.add(x.free(9));
            a.add(x.rather(0));
            a.add(x.rather(1));
            a.add(x.entry(7, 8, 0));
            a.add(x.entry(7, 8, 1));
            a.add(x.odds(3, 0));
            a.add(x.odds(3, 1));
        }

        private static void marks(HermitDues x, Answers a) {
            a.add(x.trace());
            for (int f = 0; f < 5; f++) {
                for (int kind = 0; kind < 6; kind++) {
                    a.add(x.mark(kind, f));
                }
            }
            a.add(x.trace());
        }

        private static void past(HermitDues x, Answers a) {
            present(x, a);
            for (int i = 0; i < 11; i++) {
                a.add(x.undo());
                a.add(x.now(0));
                a.add(x.now(1));
                a.add(x.now(5));
                for (int f = 0; f < 5; f++) {
                    a.add(x.family(f, 5));
                    a.add(x.family(f, 8));
                    a.add(x.family(f, 9));
                }
            }
        }

        private static void seen(HermitDues x, Answers a) {
            for (int i = 0; i < 7; i++) {
                a.add(x.saw(0, i % 4));
                a.add(x.ways(-1));
            }
            a.add(x.forget());
            a.add(x.ways(-1));
        }
    }

    /** A row of answers no longer than an object's calls. */
    private static final class Answers {
        private final long[] row = new long[MOST_CALLS];
        private int many;

        void add(long answer) {
            row[many] = answer;
            many++;
        }

        long[] all() {
            return Arrays.copyOf(row, many);
        }
    }
}
