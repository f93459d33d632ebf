/** Promises 9 to 16: folds, and where pages are laid. */
public final class FoldsTest {
    private static final int R = ProofSheet.RIGHT;
    private static final int L = ProofSheet.LEFT;
    private static final int B = ProofSheet.BOTTOM;
    private static final int T = ProofSheet.TOP;
    private static final Due due = new Due();

    public static void main(String[] args) {
        setFolds();
        setFoldsRefuses();
        sheets();
        rowsAndColumns();
        oneFold();
        twoFolds();
        fourFolds();
        lastSheetHasGaps();
        pagesAreLaidOnce();
        refusals();
        due.end();
    }

    private static int sumOf(int... kinds) {
        int sum = 0;
        for (int fold = kinds.length - 1; fold >= 0; fold--) {
            sum = sum * 4 + kinds[fold];
        }
        return sum;
    }

    private static ProofSheet folded(int pages, int... kinds) {
        ProofSheet desk = Due.deskWith(pages, 0);
        desk.setFolds(kinds.length, sumOf(kinds));
        return desk;
    }

    private static void setFolds() {
        ProofSheet desk = Due.deskWith(33, 0);
        due.answers("9: one fold", 9, () -> desk.setFolds(1, 3));
        due.answers("9: two folds", 5, () -> desk.setFolds(2, 15));
        due.answers("9: three folds", 3, () -> desk.setFolds(3, 63));
        due.answers("9: four folds", 2, () -> desk.setFolds(4, 255));
        due.answers("9: rows() of four folds TOP", 16, () -> desk.rows());
        due.answers("9: one fold again", 9, () -> desk.setFolds(1, 0));
        due.answers("9: without pages", 0, () -> new ProofSheet().setFolds(4, 0));
    }

    private static void setFoldsRefuses() {
        ProofSheet desk = Due.deskWith(9, 0);
        desk.setFolds(2, sumOf(R, B));
        int[][] wrong = {{0, 0}, {-1, 0}, {5, 0}, {32, 0}, {Integer.MAX_VALUE, 0}, {1, 4}, {2, 16}, {3, 64},
            {4, 256}, {1, -1}, {4, -1}, {4, Integer.MAX_VALUE}, {4, Integer.MIN_VALUE}};
        for (int[] pair : wrong) {
            due.refuses("9: setFolds(" + pair[0] + ", " + pair[1] + ")", Due.ARGUMENT,
                    () -> desk.setFolds(pair[0], pair[1]));
        }
        due.answers("9: nothing is changed", 2, () -> desk.sheets());
        due.answers("9: no row is changed", 2, () -> desk.rows());
        due.answers("9: no leaf is changed", 18, () -> desk.leafOf(0));
    }

    private static void sheets() {
        for (int folds = 1; folds <= 4; folds++) {
            ProofSheet desk = new ProofSheet();
            desk.setFolds(folds, 0);
            due.answers("10: without pages", 0, () -> desk.sheets());
            int pagesOfSheet = 2 << folds;
            for (int many = 1; many <= 64; many++) {
                desk.insert(0, 0, 0);
                long want = (many + pagesOfSheet - 1) / pagesOfSheet;
                due.answers("10: " + many + " pages, " + folds + " folds", want, () -> desk.sheets());
            }
            desk.remove(0);
            due.answers("10: 63 pages", 64 / pagesOfSheet, () -> desk.sheets());
        }
    }

    private static void rowsAndColumns() {
        grid(1, 2, R);
        grid(1, 2, L);
        grid(2, 1, B);
        grid(2, 1, T);
        grid(2, 2, B, R);
        grid(2, 4, L, T, R);
        grid(4, 2, T, L, B);
        grid(8, 1, T, B, T);
        grid(1, 16, R, L, L, R);
        grid(16, 1, B, T, B, B);
        grid(4, 4, B, R, L, T);
        grid(8, 2, B, B, L, T);
    }

    private static void grid(int rows, int columns, int... kinds) {
        ProofSheet desk = folded(1, kinds);
        due.answers("11: rows() of folds " + sumOf(kinds), rows, () -> desk.rows());
        due.answers("12: columns() of folds " + sumOf(kinds), columns, () -> desk.columns());
    }

    /** Front and back are told leaf by leaf, row by row; turned tells it of each page. */
    private static void laid(int[] kinds, int[] front, int[] back, String turned) {
        ProofSheet desk = folded(front.length * 2, kinds);
        String name = "folds " + kinds.length + " of " + sumOf(kinds);
        int columns = desk.columns();
        for (int leaf = 0; leaf < front.length; leaf++) {
            for (int side = 0; side < 2; side++) {
                int row = leaf / columns;
                int column = leaf % columns;
                int onSide = side;
                int page = side == 0 ? front[leaf] : back[leaf];
                String at = "(0, " + side + ", " + row + ", " + column + ") of " + name;
                due.answers("13: pageAt" + at, page, () -> desk.pageAt(0, onSide, row, column));
                due.answers("14: pageByRule" + at, page, () -> desk.pageByRule(0, onSide, row, column));
                due.answers("15: leafOf(" + page + ") of " + name, side * 16 + leaf, () -> desk.leafOf(page));
                due.answers("16: isTurned(" + page + ") of " + name, turned.charAt(page) - '0',
                        () -> Due.bit(desk.isTurned(page)));
            }
        }
    }

    private static void oneFold() {
        laid(new int[] {R}, new int[] {2, 1}, new int[] {3, 0}, "0000");
        laid(new int[] {L}, new int[] {1, 2}, new int[] {0, 3}, "0000");
        laid(new int[] {B}, new int[] {2, 1}, new int[] {3, 0}, "1100");
        laid(new int[] {T}, new int[] {1, 2}, new int[] {0, 3}, "1100");
    }

    private static void twoFolds() {
        laid(new int[] {R, R}, new int[] {6, 1, 2, 5}, new int[] {7, 0, 3, 4}, "00000000");
        laid(new int[] {B, B}, new int[] {6, 1, 2, 5}, new int[] {7, 0, 3, 4}, "11001100");
        laid(new int[] {B, T}, new int[] {1, 6, 5, 2}, new int[] {0, 7, 4, 3}, "11001100");
        laid(new int[] {R, L}, new int[] {1, 6, 5, 2}, new int[] {0, 7, 4, 3}, "00000000");
        laid(new int[] {R, B}, new int[] {6, 5, 1, 2}, new int[] {7, 4, 0, 3}, "11110000");
        laid(new int[] {T, R}, new int[] {5, 2, 6, 1}, new int[] {4, 3, 7, 0}, "00111100");
    }

    /** A strip of 16 leaves; its front was worked out apart from the class. */
    private static void fourFolds() {
        ProofSheet desk = folded(32, R, R, R, R);
        int[] strip = {30, 1, 14, 17, 22, 9, 6, 25, 26, 5, 10, 21, 18, 13, 2, 29};
        for (int column = 0; column < 16; column++) {
            int at = column;
            due.answers("13: strip, column " + at, strip[at], () -> desk.pageAt(0, 0, 0, at));
            due.answers("14: strip, column " + at, strip[at], () -> desk.pageByRule(0, 0, 0, at));
        }
    }

    private static void lastSheetHasGaps() {
        ProofSheet desk = folded(6, R);
        int[][] wants = {{2, 3}, {1, 0}, {-1, -1}, {5, 4}};
        for (int sheet = 0; sheet < 2; sheet++) {
            for (int column = 0; column < 2; column++) {
                for (int side = 0; side < 2; side++) {
                    int s = sheet;
                    int f = side;
                    int c = column;
                    long want = wants[sheet * 2 + column][side];
                    due.answers("13: sheet " + s + " with gaps", want, () -> desk.pageAt(s, f, 0, c));
                    due.answers("14: sheet " + s + " with gaps", want, () -> desk.pageByRule(s, f, 0, c));
                }
            }
        }
        due.answers("15: on the second sheet", 17, () -> desk.leafOf(4));
        desk.setFolds(1, B);
        due.answers("16: on the second sheet", 1, () -> Due.bit(desk.isTurned(4)));
    }

    /** Under all folds, all 64 pages are laid, each of them where leafOf() tells. */
    private static void pagesAreLaidOnce() {
        for (int many = 1; many <= 4; many++) {
            for (int folds = 0; folds < 1 << 2 * many; folds++) {
                leavesOf(many, folds);
            }
        }
    }

    private static void leavesOf(int many, int folds) {
        int leaves = 1 << many;
        for (int sheet = 0; sheet < 32 / leaves; sheet++) {
            ProofSheet desk = Due.deskWith(64, 0);
            desk.setFolds(many, folds);
            for (int leaf = 0; leaf < leaves; leaf++) {
                for (int side = 0; side < 2; side++) {
                    int place = desk.pageAt(sheet, side, leaf / desk.columns(), leaf % desk.columns());
                    int byRule = desk.pageByRule(sheet, side, leaf / desk.columns(), leaf % desk.columns());
                    if (place != byRule || place / (2 * leaves) != sheet || desk.leafOf(place) != side * 16 + leaf) {
                        due.tell("folds " + many + " of " + folds + ", leaf " + leaf + ": " + place + ", " + byRule);
                    }
                }
            }
        }
    }

    private static void refusals() {
        ProofSheet desk = folded(9, R, L, B);
        int most = Integer.MAX_VALUE;
        int[][] noLeaf = {{-1, 0, 0, 0}, {1, 0, 0, 0}, {0, 0, -1, 0}, {0, 0, 2, 0}, {0, 0, 0, -1}, {0, 0, 0, 4},
            {1, 2, 0, 0}, {0, 2, 2, 0}, {0, -1, 0, 4}, {most, most, most, most}};
        for (int[] w : noLeaf) {
            due.refuses("13: no leaf", Due.INDEX, () -> desk.pageAt(w[0], w[1], w[2], w[3]));
            due.refuses("14: no leaf", Due.INDEX, () -> desk.pageByRule(w[0], w[1], w[2], w[3]));
        }
        int[] noSide = {-1, 2, most, Integer.MIN_VALUE};
        for (int side : noSide) {
            due.refuses("13: side " + side, Due.ARGUMENT, () -> desk.pageAt(0, side, 1, 3));
            due.refuses("14: side " + side, Due.ARGUMENT, () -> desk.pageByRule(0, side, 1, 3));
        }
        int[] noPage = {-1, 9, most, Integer.MIN_VALUE};
        for (int place : noPage) {
            due.refuses("15: place " + place, Due.INDEX, () -> desk.leafOf(place));
            due.refuses("16: place " + place, Due.INDEX, () -> Due.bit(desk.isTurned(place)));
        }
        due.refuses("13: without pages", Due.INDEX, () -> new ProofSheet().pageAt(0, 0, 0, 0));
        due.refuses("14: without pages", Due.INDEX, () -> new ProofSheet().pageByRule(0, 0, 0, 0));
    }
}
