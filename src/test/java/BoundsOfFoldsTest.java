/** The boundary cases of the promises 9 to 16: folds, and where pages are laid. */
public final class BoundsOfFoldsTest {
    private static final int R = ProofSheet.RIGHT;
    private static final int L = ProofSheet.LEFT;
    private static final int B = ProofSheet.BOTTOM;
    private static final int T = ProofSheet.TOP;

    public static void main(String[] args) {
        Cases.run(BoundsOfFoldsTest.class);
    }

    private static Bench folded(int pages, int... kinds) {
        Bench desk = Bench.withPages(pages, 0, 0);
        desk.fold(kinds);
        return desk;
    }

    /** Where these pages are laid, told from the upper left leaf of the front on, row by row. */
    private static void frontIs(Bench desk, int... pages) {
        int columns = desk.ask(d -> d.columns());
        for (int leaf = 0; leaf < pages.length; leaf++) {
            int row = leaf / columns;
            int column = leaf % columns;
            int page = pages[leaf];
            int behind = page % 2 == 0 ? page + 1 : page - 1;
            desk.is(page, d -> d.pageAt(0, 0, row, column));
            desk.is(page, d -> d.pageByRule(0, 0, row, column));
            desk.is(behind, d -> d.pageAt(0, 1, row, column));
            desk.is(behind, d -> d.pageByRule(0, 1, row, column));
        }
    }

    // ---- Promise 9: setFolds, "many: 1 to 4", "folds: .. 0 to 4 to the power of many, less 1"

    static void p09_setFolds_many1And4() {
        Bench desk = Bench.withPages(64, 0, 0);
        desk.is(16, d -> d.setFolds(1, 0));
        desk.is(2, d -> d.setFolds(4, 0));
    }

    static void p09_setFolds_manyBelow1AndAbove4IsRefused() {
        Bench desk = Bench.atWork();
        for (int many : new int[] {0, -1, 5, 16, 32, 33, Bench.LEAST, Bench.MOST}) {
            desk.refused(Bench.ARGUMENT, d -> d.setFolds(many, 0));
            desk.refused(Bench.ARGUMENT, d -> d.setFolds(many, 3));
        }
    }

    static void p09_setFolds_folds0AreAllRight() {
        Bench desk = new Bench();
        for (int folds = 1; folds <= 4; folds++) {
            int many = folds;
            desk.is(0, d -> d.setFolds(many, 0));
            desk.is(1, d -> d.rows());
            desk.is(1 << many, d -> d.columns());
        }
    }

    static void p09_setFolds_theGreatestFoldsAreAllTop() {
        Bench desk = Bench.withPages(1, 0, 0);
        for (int folds = 1; folds <= 4; folds++) {
            int many = folds;
            int greatest = (1 << 2 * many) - 1;
            desk.is(1, d -> d.setFolds(many, greatest));
            desk.is(1 << many, d -> d.rows());
            desk.is(1, d -> d.columns());
            desk.is(0, d -> d.pageAt(0, 1, (1 << many) - 2, 0));
        }
    }

    static void p09_setFolds_foldsBelow0AreRefused() {
        Bench desk = Bench.atWork();
        for (int many = 1; many <= 4; many++) {
            int one = many;
            desk.refused(Bench.ARGUMENT, d -> d.setFolds(one, -1));
            desk.refused(Bench.ARGUMENT, d -> d.setFolds(one, Bench.LEAST));
        }
    }

    static void p09_setFolds_foldsFrom4ToThePowerOfManyOnAreRefused() {
        Bench desk = Bench.atWork();
        for (int many = 1; many <= 4; many++) {
            int one = many;
            desk.refused(Bench.ARGUMENT, d -> d.setFolds(one, 1 << 2 * one));
            desk.refused(Bench.ARGUMENT, d -> d.setFolds(one, 256));
            desk.refused(Bench.ARGUMENT, d -> d.setFolds(one, Bench.MOST));
        }
    }

    static void p09_setFolds_theFirstFoldHasTheNumber0() {
        Bench desk = Bench.withPages(8, 0, 0);
        desk.does(d -> d.setFolds(2, 2));
        frontIs(desk, 6, 1, 5, 2);
        desk.does(d -> d.setFolds(2, 8));
        frontIs(desk, 6, 5, 1, 2);
    }

    static void p09_setFolds_theLastFoldOfFour() {
        Bench desk = Bench.withPages(32, 0, 0);
        for (int kind : new int[] {R, L, B, T}) {
            desk.is(1, d -> d.setFolds(4, kind * 64));
            desk.is(kind == R || kind == L ? 1 : 2, d -> d.rows());
            desk.is(kind == B || kind == T, d -> d.isTurned(0));
            desk.is(false, d -> d.isTurned(31));
        }
    }

    static void p09_setFolds_withoutPages() {
        Bench desk = new Bench();
        desk.is(0, d -> d.setFolds(1, 3));
        desk.is(0, d -> d.setFolds(4, 255));
    }

    static void p09_setFolds_theSameOnceMore() {
        Bench desk = Bench.atWork();
        int before = desk.ask(d -> d.wear(0, 0, 0));
        desk.is(3, d -> d.setFolds(1, 0));
        desk.is(before, d -> d.wear(0, 0, 0));
    }

    /** No page and no proof is changed by it. */
    static void p09_setFolds_leavesPagesAndProofs() {
        Bench desk = Bench.atWork();
        desk.is(1, d -> d.setFolds(4, 255));
        desk.is(9, d -> d.pages());
        desk.is(2, d -> d.edition(1));
        desk.is(ProofSheet.APPROVED, d -> d.proof(0, 0));
        desk.is(ProofSheet.MADE, d -> d.proof(4, 1));
        desk.is(ProofSheet.REFUSED, d -> d.proof(4, 2));
    }

    // ---- Promise 10: sheets

    static void p10_sheets_0WithoutPages() {
        Bench desk = new Bench();
        for (int folds = 1; folds <= 4; folds++) {
            int many = folds;
            desk.does(d -> d.setFolds(many, 0));
            desk.is(0, d -> d.sheets());
        }
    }

    static void p10_sheets_aFullOneAndOneMore() {
        for (int folds = 1; folds <= 4; folds++) {
            int many = folds;
            Bench desk = Bench.withPages(1, 0, 0);
            desk.does(d -> d.setFolds(many, 0));
            desk.is(1, d -> d.sheets());
            desk.insertPages((2 << folds) - 1, 0, 0);
            desk.is(1, d -> d.sheets());
            desk.insertPages(1, 0, 0);
            desk.is(2, d -> d.sheets());
        }
    }

    static void p10_sheets_of64Pages() {
        Bench desk = Bench.withPages(64, 0, 0);
        int[] sheets = {16, 8, 4, 2};
        for (int folds = 1; folds <= 4; folds++) {
            int many = folds;
            desk.does(d -> d.setFolds(many, 0));
            desk.is(sheets[many - 1], d -> d.sheets());
        }
    }

    // ---- Promise 11: rows, promise 12: columns

    static void p11_rows_1And16() {
        Bench desk = new Bench();
        desk.is(1, d -> d.rows());
        desk.fold(R, L, R, L);
        desk.is(1, d -> d.rows());
        desk.fold(B, T, B, T);
        desk.is(16, d -> d.rows());
    }

    static void p11_rows_eachFoldUpOrDownDoublesThem() {
        int[][] kinds = {{B, R, R, R}, {R, R, R, T}, {T, R, L, B}, {B, L, T, B}};
        int[] rows = {2, 2, 4, 8};
        Bench desk = new Bench();
        for (int at = 0; at < kinds.length; at++) {
            int want = rows[at];
            desk.fold(kinds[at]);
            desk.is(want, d -> d.rows());
        }
    }

    static void p12_columns_1And16() {
        Bench desk = new Bench();
        desk.is(2, d -> d.columns());
        desk.fold(B);
        desk.is(1, d -> d.columns());
        desk.fold(R, L, R, L);
        desk.is(16, d -> d.columns());
        desk.fold(B, T, B, T);
        desk.is(1, d -> d.columns());
    }

    static void p12_columns_eachFoldToOneSideDoublesThem() {
        int[][] kinds = {{R, B, B, B}, {T, T, T, L}, {L, B, T, R}, {R, T, L, L}};
        int[] columns = {2, 2, 4, 8};
        Bench desk = new Bench();
        for (int at = 0; at < kinds.length; at++) {
            int want = columns[at];
            desk.fold(kinds[at]);
            desk.is(want, d -> d.columns());
        }
    }

    // ---- Promise 13: pageAt

    static void p13_pageAt_theFourCornersOfBothSides() {
        Bench desk = folded(32, R, B, R, B);
        int[][] corners = {{0, 0}, {0, 3}, {3, 0}, {3, 3}};
        for (int side = 0; side < 2; side++) {
            int one = side;
            for (int[] corner : corners) {
                int want = onTheFirstSheet(32, one, corner[0], corner[1], R, B, R, B);
                desk.is(want, d -> d.pageAt(0, one, corner[0], corner[1]));
                desk.is(want, d -> d.pageByRule(0, one, corner[0], corner[1]));
            }
        }
    }

    /** What PlainDesk finds by folding. */
    private static int onTheFirstSheet(int pages, int side, int row, int column, int... kinds) {
        PlainDesk plain = new PlainDesk();
        for (int page = 0; page < pages; page++) {
            plain.insert(0, 0, 0);
        }
        int sum = 0;
        for (int fold = kinds.length - 1; fold >= 0; fold--) {
            sum = sum * 4 + kinds[fold];
        }
        plain.setFolds(kinds.length, sum);
        return plain.pageAt(0, side, row, column);
    }

    static void p13_pageAt_aSheetOfOneFold() {
        frontIs(folded(4, R), 2, 1);
        frontIs(folded(4, L), 1, 2);
        frontIs(folded(4, B), 2, 1);
        frontIs(folded(4, T), 1, 2);
    }

    static void p13_pageAt_aSheetOfFourFoldsOfOneKind() {
        int[] strip = {30, 1, 14, 17, 22, 9, 6, 25, 26, 5, 10, 21, 18, 13, 2, 29};
        int[] mirrored = new int[16];
        for (int leaf = 0; leaf < 16; leaf++) {
            mirrored[15 - leaf] = strip[leaf];
        }
        frontIs(folded(32, R, R, R, R), strip);
        frontIs(folded(32, B, B, B, B), strip);
        frontIs(folded(32, L, L, L, L), mirrored);
        frontIs(folded(32, T, T, T, T), mirrored);
    }

    static void p13_pageAt_theLastPageAndTheFirstLeafWithoutOne() {
        Bench desk = folded(6, R);
        desk.is(5, d -> d.pageAt(1, 0, 0, 1));
        desk.is(-1, d -> d.pageAt(1, 0, 0, 0));
        desk.is(-1, d -> d.pageAt(1, 1, 0, 0));
        desk.does(d -> d.remove(0));
        desk.is(-1, d -> d.pageAt(1, 0, 0, 1));
        desk.is(4, d -> d.pageAt(1, 1, 0, 1));
    }

    static void p13_pageAt_thePage64() {
        Bench desk = Bench.withPages(64, 0, 0);
        desk.is(63, d -> d.pageAt(15, 1, 0, 0));
        desk.does(d -> d.setFolds(4, 0));
        desk.is(63, d -> d.pageAt(1, 1, 0, 0));
        desk.is(62, d -> d.pageAt(1, 0, 0, 0));
    }

    static void p13_pageAt_noSuchSheet() {
        Bench desk = Bench.atWork();
        desk.is(-1, d -> d.pageAt(2, 0, 0, 0));
        for (int sheet : new int[] {-1, 3, 16, Bench.LEAST, Bench.MOST}) {
            desk.refused(Bench.INDEX, d -> d.pageAt(sheet, 0, 0, 0));
        }
    }

    static void p13_pageAt_noSuchRow() {
        Bench desk = folded(9, B, R);
        desk.is(2, d -> d.pageAt(0, 0, 1, 1));
        for (int row : new int[] {-1, 2, 16, Bench.LEAST, Bench.MOST}) {
            desk.refused(Bench.INDEX, d -> d.pageAt(0, 0, row, 0));
        }
        Bench flat = Bench.atWork();
        for (int row : new int[] {-1, 1}) {
            flat.refused(Bench.INDEX, d -> d.pageAt(0, 0, row, 1));
        }
    }

    static void p13_pageAt_noSuchColumn() {
        Bench desk = Bench.atWork();
        for (int column : new int[] {-1, 2, 16, Bench.LEAST, Bench.MOST}) {
            desk.refused(Bench.INDEX, d -> d.pageAt(0, 0, 0, column));
        }
        Bench narrow = folded(4, T);
        for (int column : new int[] {-1, 1}) {
            narrow.refused(Bench.INDEX, d -> d.pageAt(0, 0, 1, column));
        }
    }

    static void p13_pageAt_rowsAndColumnsOfTheFoldsThatWere() {
        Bench desk = folded(4, R);
        desk.is(1, d -> d.pageAt(0, 0, 0, 1));
        desk.fold(B);
        desk.refused(Bench.INDEX, d -> d.pageAt(0, 0, 0, 1));
        desk.is(1, d -> d.pageAt(0, 0, 1, 0));
        desk.fold(R);
        desk.refused(Bench.INDEX, d -> d.pageAt(0, 0, 1, 0));
    }

    static void p13_pageAt_noSuchSide() {
        Bench desk = Bench.atWork();
        for (int side : new int[] {-1, 2, Bench.LEAST, Bench.MOST}) {
            desk.refused(Bench.ARGUMENT, d -> d.pageAt(0, side, 0, 0));
            desk.refused(Bench.ARGUMENT, d -> d.pageAt(2, side, 0, 1));
        }
    }

    static void p13_pageAt_sheetRowAndColumnAreLookedAtAheadOfTheSide() {
        Bench desk = Bench.atWork();
        desk.refused(Bench.INDEX, d -> d.pageAt(3, 2, 0, 0));
        desk.refused(Bench.INDEX, d -> d.pageAt(0, 2, 1, 0));
        desk.refused(Bench.INDEX, d -> d.pageAt(0, -1, 0, 2));
        desk.refused(Bench.INDEX, d -> d.pageAt(-1, -1, -1, -1));
    }

    // ---- Promise 14: pageByRule

    /** The columns 1, 2, 3 and 0 have 3, 2, 1 and no leaves below them in the end. */
    static void p14_pageByRule_theLowestAndTheTopLeafOfAPileTurnedOver() {
        Bench desk = folded(8, R, R);
        desk.is(0, d -> d.pageByRule(0, 1, 0, 1));
        desk.is(1, d -> d.pageByRule(0, 0, 0, 1));
        desk.is(2, d -> d.pageByRule(0, 0, 0, 2));
        desk.is(3, d -> d.pageByRule(0, 1, 0, 2));
        desk.is(4, d -> d.pageByRule(0, 1, 0, 3));
        desk.is(5, d -> d.pageByRule(0, 0, 0, 3));
        desk.is(6, d -> d.pageByRule(0, 0, 0, 0));
        desk.is(7, d -> d.pageByRule(0, 1, 0, 0));
    }

    static void p14_pageByRule_aLeafThatNoFoldTurnsOverStaysLowest() {
        int[][] kindsRowColumn = {{R, 0, 0}, {L, 0, 15}, {B, 0, 0}, {T, 15, 0}};
        for (int[] lowest : kindsRowColumn) {
            Bench desk = folded(32, lowest[0], lowest[0], lowest[0], lowest[0]);
            desk.is(30, d -> d.pageByRule(0, 0, lowest[1], lowest[2]));
            desk.is(31, d -> d.pageByRule(0, 1, lowest[1], lowest[2]));
        }
    }

    static void p14_pageByRule_aLeafThatOnlyTheLastFoldTurnsOverIsOnTop() {
        int[][] kindsRowColumn = {{R, 0, 1}, {L, 0, 14}, {B, 1, 0}, {T, 14, 0}};
        for (int[] top : kindsRowColumn) {
            Bench desk = folded(32, top[0], top[0], top[0], top[0]);
            desk.is(0, d -> d.pageByRule(0, 1, top[1], top[2]));
            desk.is(1, d -> d.pageByRule(0, 0, top[1], top[2]));
        }
    }

    static void p14_pageByRule_theLastPageAndTheFirstLeafWithoutOne() {
        Bench desk = folded(6, R);
        desk.is(5, d -> d.pageByRule(1, 0, 0, 1));
        desk.is(-1, d -> d.pageByRule(1, 0, 0, 0));
        desk.does(d -> d.remove(0));
        desk.is(-1, d -> d.pageByRule(1, 0, 0, 1));
        desk.is(4, d -> d.pageByRule(1, 1, 0, 1));
    }

    static void p14_pageByRule_thePage64() {
        Bench desk = Bench.withPages(64, 0, 0);
        desk.is(63, d -> d.pageByRule(15, 1, 0, 0));
        desk.does(d -> d.setFolds(4, 0));
        desk.is(63, d -> d.pageByRule(1, 1, 0, 0));
        desk.is(62, d -> d.pageByRule(1, 0, 0, 0));
    }

    static void p14_pageByRule_noSuchSheet() {
        Bench desk = Bench.atWork();
        for (int sheet : new int[] {-1, 3, 16, Bench.LEAST, Bench.MOST}) {
            desk.refused(Bench.INDEX, d -> d.pageByRule(sheet, 0, 0, 0));
        }
    }

    static void p14_pageByRule_noSuchRow() {
        Bench desk = folded(9, B, R);
        for (int row : new int[] {-1, 2, 16, Bench.LEAST, Bench.MOST}) {
            desk.refused(Bench.INDEX, d -> d.pageByRule(0, 0, row, 0));
        }
        Bench flat = Bench.atWork();
        for (int row : new int[] {-1, 1}) {
            flat.refused(Bench.INDEX, d -> d.pageByRule(0, 0, row, 1));
        }
    }

    static void p14_pageByRule_noSuchColumn() {
        Bench desk = Bench.atWork();
        for (int column : new int[] {-1, 2, 16, Bench.LEAST, Bench.MOST}) {
            desk.refused(Bench.INDEX, d -> d.pageByRule(0, 0, 0, column));
        }
        Bench narrow = folded(4, T);
        for (int column : new int[] {-1, 1}) {
            narrow.refused(Bench.INDEX, d -> d.pageByRule(0, 0, 1, column));
        }
    }

    static void p14_pageByRule_noSuchSide() {
        Bench desk = Bench.atWork();
        for (int side : new int[] {-1, 2, Bench.LEAST, Bench.MOST}) {
            desk.refused(Bench.ARGUMENT, d -> d.pageByRule(0, side, 0, 0));
            desk.refused(Bench.ARGUMENT, d -> d.pageByRule(2, side, 0, 1));
        }
    }

    static void p14_pageByRule_sheetRowAndColumnAreLookedAtAheadOfTheSide() {
        Bench desk = Bench.atWork();
        desk.refused(Bench.INDEX, d -> d.pageByRule(3, 2, 0, 0));
        desk.refused(Bench.INDEX, d -> d.pageByRule(0, 2, 1, 0));
        desk.refused(Bench.INDEX, d -> d.pageByRule(0, -1, 0, 2));
        desk.refused(Bench.INDEX, d -> d.pageByRule(-1, -1, -1, -1));
    }

    // ---- Promise 15: leafOf, "the side, times 16, plus the row times the number of columns, plus the column"

    static void p15_leafOf_theLeastAnswer0AndTheGreatest31() {
        for (int kind : new int[] {R, B}) {
            Bench desk = folded(32, kind, kind, kind, kind);
            desk.is(0, d -> d.leafOf(30));
            desk.is(16, d -> d.leafOf(31));
            desk.is(15, d -> d.leafOf(29));
            desk.is(31, d -> d.leafOf(28));
        }
    }

    static void p15_leafOf_theCornersOfRowsAndColumns() {
        Bench desk = folded(8, R, B);
        int[] pages = {6, 5, 1, 2};
        for (int leaf = 0; leaf < 4; leaf++) {
            int at = leaf;
            desk.is(at, d -> d.leafOf(pages[at]));
        }
        desk.is(16, d -> d.leafOf(7));
        desk.is(19, d -> d.leafOf(3));
    }

    static void p15_leafOf_aPageAloneIsLaidAsIfTheSheetWereFull() {
        Bench desk = Bench.withPages(1, 0, 0);
        desk.is(17, d -> d.leafOf(0));
        desk.fold(L);
        desk.is(16, d -> d.leafOf(0));
        desk.fold(R, R, R, R);
        desk.is(17, d -> d.leafOf(0));
    }

    static void p15_leafOf_theFirstAndTheLastPageOfASheet() {
        Bench desk = Bench.withPages(9, 0, 0);
        int[] leaves = {17, 1, 0, 16, 17, 1, 0, 16, 17};
        for (int place = 0; place < 9; place++) {
            int at = place;
            desk.is(leaves[at], d -> d.leafOf(at));
        }
    }

    static void p15_leafOf_thePage64() {
        Bench desk = Bench.withPages(64, 0, 0);
        desk.is(16, d -> d.leafOf(63));
        desk.fold(L, L, L, L);
        desk.is(31, d -> d.leafOf(63));
        desk.refused(Bench.INDEX, d -> d.leafOf(64));
    }

    static void p15_leafOf_noSuchPage() {
        Bench desk = Bench.atWork();
        for (int place : new int[] {-1, 9, 12, 64, Bench.LEAST, Bench.MOST}) {
            desk.refused(Bench.INDEX, d -> d.leafOf(place));
        }
    }

    // ---- Promise 16: isTurned

    static void p16_isTurned_theFirstAndTheLastPageOfASheet() {
        Bench desk = folded(9, B);
        boolean[] turned = {true, true, false, false, true, true, false, false, true};
        for (int place = 0; place < 9; place++) {
            int at = place;
            desk.is(turned[at], d -> d.isTurned(at));
        }
    }

    static void p16_isTurned_byOneFoldOfFour() {
        for (int fold = 0; fold < 4; fold++) {
            for (int kind : new int[] {B, T}) {
                int folds = kind << 2 * fold;
                Bench desk = Bench.withPages(32, 0, 0);
                desk.does(d -> d.setFolds(4, folds));
                int turned = 0;
                for (int place = 0; place < 32; place++) {
                    int at = place;
                    turned += desk.ask(d -> Due.bit(d.isTurned(at)));
                }
                if (turned != 16) {
                    Cases.fault(turned + " of 32 pages are turned");
                }
            }
        }
    }

    static void p16_isTurned_theFrontAndTheBackOfALeafAlike() {
        Bench desk = folded(32, T, L, B, T);
        for (int place = 0; place < 32; place += 2) {
            int at = place;
            int front = desk.ask(d -> Due.bit(d.isTurned(at)));
            desk.is(front == 1, d -> d.isTurned(at + 1));
        }
    }

    static void p16_isTurned_thePage64() {
        Bench desk = Bench.withPages(64, 0, 0);
        desk.is(false, d -> d.isTurned(63));
        desk.fold(T);
        desk.is(false, d -> d.isTurned(63));
        desk.is(true, d -> d.isTurned(61));
        desk.refused(Bench.INDEX, d -> d.isTurned(64));
    }

    static void p16_isTurned_noSuchPage() {
        Bench desk = Bench.atWork();
        for (int place : new int[] {-1, 9, 12, 64, Bench.LEAST, Bench.MOST}) {
            desk.refused(Bench.INDEX, d -> d.isTurned(place));
        }
    }
}
