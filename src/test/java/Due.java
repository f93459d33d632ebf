/** Counts the calls whose answer is not the one that is due, and prints them. */
final class Due {
    interface Call {
        long answer();
    }

    static final Class<?> INDEX = IndexOutOfBoundsException.class;
    static final Class<?> ARGUMENT = IllegalArgumentException.class;
    static final Class<?> STATE = IllegalStateException.class;

    private int wrong;

    /** The call answers this, and throws nothing. */
    void answers(String what, long want, Call call) {
        try {
            long got = call.answer();
            if (got != want) {
                tell(what + " answered " + got + ", due is " + want);
            }
        } catch (RuntimeException e) {
            tell(what + " threw " + e + ", due is " + want);
        }
    }

    /** The call throws just this class, none below it: the machine's own would be one below it. */
    void refuses(String what, Class<?> want, Call call) {
        try {
            long got = call.answer();
            tell(what + " answered " + got + ", due is " + want.getName());
        } catch (RuntimeException e) {
            if (e.getClass() != want) {
                tell(what + " threw " + e + ", due is " + want.getName());
            }
        }
    }

    void tell(String fault) {
        wrong++;
        if (wrong <= 50) {
            System.out.println(fault);
        }
    }

    /** Ends the machine with 1 if any call was wrong. */
    void end() {
        if (wrong > 0) {
            System.out.println(wrong + " wrong");
            System.exit(1);
        }
    }

    static long bit(boolean answer) {
        return answer ? 1 : 0;
    }

    /** A desk with so many pages, without fonts, all with the same colours. */
    static ProofSheet deskWith(int pages, int colors) {
        ProofSheet desk = new ProofSheet();
        for (int page = 0; page < pages; page++) {
            desk.insert(page, 0, colors);
        }
        return desk;
    }

    static void approve(ProofSheet desk, int place, int color) {
        desk.prove(place, color);
        desk.judge(place, color, true);
    }

    /** Approves all proofs of the pages from one place to another, both included. */
    static void approveAll(ProofSheet desk, int from, int to) {
        for (int place = from; place <= to; place++) {
            for (int color = 0; color < 4; color++) {
                int proof = desk.proof(place, color);
                if (proof == ProofSheet.NONE || proof == ProofSheet.REFUSED) {
                    approve(desk, place, color);
                }
            }
        }
    }
}
