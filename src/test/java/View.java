/** Tells what a desk shows, one part of it after another, as far as its 512 calls reach. */
final class View {
    static final int MANY = 10;
    /** An object is promised for so many calls. */
    static final int PROMISED_CALLS = 512;

    private final ProofSheet desk;
    private final StringBuilder seen = new StringBuilder();
    private int left;

    private View(ProofSheet desk, int left) {
        this.desk = desk;
        this.left = left;
    }

    /** One part of what a desk shows that has had so many calls; the desk is of no use any more then. */
    static String of(int part, ProofSheet desk, int calls) {
        View view = new View(desk, PROMISED_CALLS - calls);
        switch (part) {
            case 0: view.pages(); break;
            case 1: view.laid(); break;
            case 2: view.leaves(); break;
            case 3: view.plates(); break;
            case 4: view.days(1); break;
            case 5: view.days(100); break;
            case 6: view.rights(); break;
            case 7: view.roomForPages(); break;
            case 8: view.copies(); break;
            default: view.platesUnderOtherFolds(); break;
        }
        return view.seen.toString();
    }

    static void quietly(ProofSheet desk, Bench.Step step) {
        try {
            step.on(desk);
        } catch (RuntimeException e) {
            // Bench has told it already, or it is the refused call.
        }
    }

    private long ask(Bench.Call call) {
        if (left <= 0) {
            return 0;
        }
        left--;
        try {
            long answer = call.on(desk);
            seen.append(answer).append(' ');
            return answer;
        } catch (RuntimeException e) {
            seen.append(e.getClass().getSimpleName()).append(' ');
            return Long.MIN_VALUE;
        }
    }

    private void pages() {
        ask(d -> d.today());
        ask(d -> d.plates());
        ask(d -> d.rows());
        ask(d -> d.columns());
        ask(d -> d.sheets());
        long many = ask(d -> d.pages());
        for (int place = 0; place < many; place++) {
            int at = place;
            ask(d -> d.edition(at));
            for (int color = 0; color < 4; color++) {
                int one = color;
                ask(d -> d.proof(at, one));
            }
        }
    }

    private void laid() {
        for (int font = 0; font < 8; font++) {
            int one = font;
            ask(d -> Due.bit(d.mayUse(one)));
        }
        long sheets = ask(d -> d.sheets());
        for (int sheet = 0; sheet < sheets; sheet++) {
            int one = sheet;
            ask(d -> Due.bit(d.isReady(one)));
        }
        long many = ask(d -> d.pages());
        for (int place = 0; place < many; place++) {
            int at = place;
            ask(d -> d.leafOf(at));
            ask(d -> Due.bit(d.isTurned(at)));
        }
    }

    private void leaves() {
        long sheets = ask(d -> d.sheets());
        long rows = ask(d -> d.rows());
        long columns = ask(d -> d.columns());
        for (int face = 0; face < sheets * 2 * rows * columns; face++) {
            int column = (int) (face % columns);
            int row = (int) (face / columns % rows);
            int side = (int) (face / columns / rows % 2);
            int sheet = (int) (face / columns / rows / 2);
            ask(d -> d.pageAt(sheet, side, row, column));
            ask(d -> d.pageByRule(sheet, side, row, column));
        }
    }

    private void plates() {
        long sheets = ask(d -> d.sheets());
        for (int plate = 0; plate < sheets * 8; plate++) {
            int one = plate;
            ask(d -> d.wear(one / 8, one / 4 % 2, one % 4));
        }
    }

    /** Which fonts may be used in the days to come. */
    private void days(int step) {
        while (left > 0) {
            for (int font = 0; font < 8; font++) {
                int one = font;
                ask(d -> Due.bit(d.mayUse(one)));
            }
            ask(d -> d.pass(step));
        }
    }

    private void rights() {
        for (int font = 0; font < 8; font++) {
            int one = font;
            ask(d -> d.withdraw(one));
        }
    }

    /** How many more pages can be made. */
    private void roomForPages() {
        boolean more = true;
        while (more && left > 0) {
            boolean full = ask(d -> d.insert(0, 0, 0)) < 0;
            more = !full || ask(d -> d.remove(0)) >= 0 && ask(d -> d.insert(0, 0, 0)) >= 0;
        }
    }

    /** How many copies were printed: a sheet with one page that needs no plate is printed once more. */
    private void copies() {
        long many = ask(d -> d.pages());
        if (many == 0) {
            ask(d -> d.insert(0, 0, 0));
        }
        for (int more = 1; more < many; more++) {
            ask(d -> d.remove(0));
        }
        ask(d -> d.edit(0, 0, 0));
        ask(d -> d.print(0, 1));
    }

    private void platesUnderOtherFolds() {
        int[][] others = {{1, 0}, {4, 0}, {1, 1}, {1, 2}, {1, 3}, {2, 0}, {2, 8}, {4, 255}};
        for (int[] folds : others) {
            ask(d -> d.setFolds(folds[0], folds[1]));
            plates();
        }
    }
}
