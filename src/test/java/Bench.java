import java.util.ArrayList;
import java.util.List;

/**
 * A desk under test. It notes the calls made on it, so that other desks can be brought to the same state: on those it
 * is looked whether a refused call has changed anything, also what only later calls show.
 */
final class Bench {
    interface Call {
        long on(ProofSheet desk);
    }

    interface Question {
        boolean on(ProofSheet desk);
    }

    interface Step {
        void on(ProofSheet desk);
    }

    static final Class<?> INDEX = IndexOutOfBoundsException.class;
    static final Class<?> ARGUMENT = IllegalArgumentException.class;
    static final Class<?> STATE = IllegalStateException.class;
    static final int LEAST = Integer.MIN_VALUE;
    static final int MOST = Integer.MAX_VALUE;

    private final ProofSheet desk = new ProofSheet();
    private final List<Step> made = new ArrayList<>();
    private int calls;

    /** A desk with so many pages, all alike. */
    static Bench withPages(int many, int fonts, int colors) {
        Bench bench = new Bench();
        bench.insertPages(many, fonts, colors);
        return bench;
    }

    /**
     * Nine pages on three sheets. The first sheet is ready and printed, the second one has a proof of each kind, the
     * third one a page whose font's right ends soon; one font's right is to come.
     */
    static Bench atWork() {
        Bench bench = new Bench();
        bench.does(d -> d.setRight(0, 0, 20));
        bench.does(d -> d.setRight(1, 0, 4));
        bench.does(d -> d.setRight(2, 5, 9));
        int[] fonts = {1, 0, 1, 0, 0, 1, 0, 0, 2};
        int[] colors = {1, 3, 2, 1, 15, 0, 4, 0, 1};
        for (int place = 0; place < fonts.length; place++) {
            int at = place;
            bench.does(d -> d.insert(at, fonts[at], colors[at]));
        }
        bench.does(d -> d.edit(1, 0, 3));
        bench.approveAll(0, 3);
        bench.does(d -> d.makePlates(0));
        bench.does(d -> d.print(0, 7));
        bench.approve(4, 0);
        bench.does(d -> d.prove(4, 1));
        bench.does(d -> d.prove(4, 2));
        bench.does(d -> d.judge(4, 2, false));
        bench.approve(8, 0);
        bench.does(d -> d.pass(2));
        return bench;
    }

    void insertPages(int many, int fonts, int colors) {
        for (int page = 0; page < many; page++) {
            does(d -> d.insert(0, fonts, colors));
        }
    }

    void removePages(int many) {
        for (int page = 0; page < many; page++) {
            does(d -> d.remove(0));
        }
    }

    void fold(int... kinds) {
        int sum = 0;
        for (int fold = kinds.length - 1; fold >= 0; fold--) {
            sum = sum * 4 + kinds[fold];
        }
        int folds = sum;
        does(d -> d.setFolds(kinds.length, folds));
    }

    void approve(int place, int color) {
        does(d -> d.prove(place, color));
        does(d -> d.judge(place, color, true));
    }

    /** Approves each proof that is none, of the pages from one place to another, both included. */
    void approveAll(int from, int to) {
        for (int place = from; place <= to; place++) {
            for (int color = 0; color < 4; color++) {
                int at = place;
                int one = color;
                if (ask(d -> d.proof(at, one)) == ProofSheet.NONE) {
                    approve(at, one);
                }
            }
        }
    }

    /** Makes a call; what it answers is not looked at, but it throws nothing. */
    void does(Step step) {
        try {
            count();
            step.on(desk);
        } catch (RuntimeException e) {
            Cases.fault("threw " + e);
        }
        made.add(step);
    }

    /** Makes a call for its answer, which the test goes on with. */
    int ask(Call call) {
        made.add(call::on);
        count();
        return (int) call.on(desk);
    }

    void is(long want, Call call) {
        try {
            count();
            long got = call.on(desk);
            if (got != want) {
                Cases.fault("answered " + got + ", due is " + want);
            }
        } catch (RuntimeException e) {
            Cases.fault("threw " + e + ", due is " + want);
        }
        made.add(call::on);
    }

    void is(boolean want, Question question) {
        is(want ? 1 : 0, d -> question.on(d) ? 1 : 0);
    }

    /** The call throws just this class, none below it, and nothing is changed by it. */
    void refused(Class<?> want, Step step) {
        try {
            count();
            step.on(desk);
            Cases.fault("answered, due is " + want.getName());
        } catch (RuntimeException e) {
            if (e.getClass() != want) {
                Cases.fault("threw " + e + ", due is " + want.getName());
            }
        }
        for (int view = 0; view < View.MANY; view++) {
            String before = View.of(view, again(null), made.size());
            String after = View.of(view, again(step), made.size() + 1);
            if (!alike(before, after)) {
                Cases.fault("the refused call has changed something: " + before + " became " + after);
            }
        }
    }

    /** The one that has made a call more may have come to the end of its calls a little earlier. */
    private static boolean alike(String before, String after) {
        return before.startsWith(after);
    }

    private void count() {
        calls++;
        if (calls == View.PROMISED_CALLS + 1) {
            Cases.fault("nothing is promised for this call, there were too many");
        }
    }

    private ProofSheet again(Step last) {
        ProofSheet twin = new ProofSheet();
        for (Step step : made) {
            View.quietly(twin, step);
        }
        if (last != null) {
            View.quietly(twin, last);
        }
        return twin;
    }
}
