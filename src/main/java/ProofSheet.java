/**
 * A print desk: pages in an order, sheets that are folded, proofs of pages colour by colour,
 * fonts whose rights begin and end, plates that wear, and runs.
 */
public final class ProofSheet {
    public static final int RIGHT = 0, LEFT = 1, BOTTOM = 2, TOP = 3;
    public static final int NONE = 0, MADE = 1, APPROVED = 2, REFUSED = 3;

    private static final int FONTS = 8;
    private static final int ALL_FONTS = 255;
    private static final int COLORS = 4;
    private static final int ALL_COLORS = 15;
    private static final int MOST_PAGES = 64;
    private static final int MOST_PAGES_MADE = 100;
    private static final int MOST_FOLDS = 4;
    private static final int MOST_LEAVES = 16;
    /** 64 pages on sheets of one fold, which hold four pages each. */
    private static final int MOST_SHEETS = 16;
    private static final int SIDES = 2;
    private static final int LAST_DAY_OF_RIGHTS = 9999;
    private static final int MOST_DAYS = 100;
    private static final int MOST_COPIES = 500;
    private static final int PLATE_LIFE = 1000;

    private final Page[] order;
    private int pageCount;
    private int pagesMade;
    private final Folding folding;
    private final Font[] fontRow;
    private int day;
    private final boolean[] readyBefore;
    /** The plate of a sheet, a side and a colour stands at slotOf(..); null until it is made first. */
    private final Plate[] rack;
    /** What the plate that was looked up last would show if it were made now. */
    private final long[] marks;
    private int markCount;
    private int platesMade;
    private int copiesPrinted;

    public ProofSheet() {
        order = new Page[MOST_PAGES];
        folding = new Folding();
        folding.foldBy(1, RIGHT);
        fontRow = new Font[FONTS];
        for (int font = 0; font < FONTS; font++) {
            fontRow[font] = new Font();
        }
        readyBefore = new boolean[MOST_SHEETS];
        rack = new Plate[MOST_SHEETS * SIDES * COLORS];
        marks = new long[MOST_LEAVES];
    }

    // ---- pages

    public int insert(int place, int fonts, int colors)
            throws IndexOutOfBoundsException, IllegalArgumentException, IllegalStateException {
        if (place < 0 || place > pageCount) {
            throw new IndexOutOfBoundsException("place is out of range");
        }
        checkFontsAndColors(fonts, colors);
        if (pageCount >= MOST_PAGES || pagesMade >= MOST_PAGES_MADE) {
            throw new IllegalStateException("no more pages");
        }
        for (int at = pageCount; at > place; at--) {
            order[at] = order[at - 1];
        }
        order[place] = new Page(pagesMade, fonts, colors);
        pagesMade++;
        pageCount++;
        return pageCount;
    }

    public int remove(int place) throws IndexOutOfBoundsException {
        checkPlace(place);
        takeOut(place);
        pageCount--;
        order[pageCount] = null;
        return pageCount;
    }

    public void move(int place, int other) throws IndexOutOfBoundsException {
        checkPlace(place);
        checkPlace(other);
        Page page = order[place];
        takeOut(place);
        for (int at = pageCount - 1; at > other; at--) {
            order[at] = order[at - 1];
        }
        order[other] = page;
    }

    public int edit(int place, int fonts, int colors) throws IndexOutOfBoundsException, IllegalArgumentException {
        checkPlace(place);
        checkFontsAndColors(fonts, colors);
        order[place].rewrite(fonts, colors);
        return order[place].edition;
    }

    public int replace(int font, int other) throws IllegalArgumentException {
        checkFont(font);
        checkFont(other);
        if (font == other) {
            throw new IllegalArgumentException("both fonts are the same");
        }
        int edited = 0;
        for (int place = 0; place < pageCount; place++) {
            Page page = order[place];
            if (page.usesFont(font)) {
                page.rewrite((page.fonts & ~(1 << font)) | (1 << other), page.colors);
                edited++;
            }
        }
        return edited;
    }

    public int pages() {
        return pageCount;
    }

    public int edition(int place) throws IndexOutOfBoundsException {
        checkPlace(place);
        return order[place].edition;
    }

    /** Closes the gap at a place; the last place is left as it was. */
    private void takeOut(int place) {
        for (int at = place; at < pageCount - 1; at++) {
            order[at] = order[at + 1];
        }
    }

    private void checkPlace(int place) {
        if (place < 0 || place >= pageCount) {
            throw new IndexOutOfBoundsException("no such page");
        }
    }

    private static void checkFontsAndColors(int fonts, int colors) {
        if (fonts < 0 || fonts > ALL_FONTS) {
            throw new IllegalArgumentException("fonts is out of range");
        }
        if (colors < 0 || colors > ALL_COLORS) {
            throw new IllegalArgumentException("colors is out of range");
        }
    }

    // ---- folds

    public int setFolds(int many, int folds) throws IllegalArgumentException {
        if (many < 1 || many > MOST_FOLDS) {
            throw new IllegalArgumentException("many is out of range");
        }
        if (folds < 0 || folds >= 1 << (2 * many)) {
            throw new IllegalArgumentException("folds is out of range");
        }
        folding.foldBy(many, folds);
        return sheetCount();
    }

    public int sheets() {
        return sheetCount();
    }

    public int rows() {
        return folding.rowCount;
    }

    public int columns() {
        return folding.columnCount;
    }

    public int pageAt(int sheet, int side, int row, int column)
            throws IndexOutOfBoundsException, IllegalArgumentException {
        checkLeafSide(sheet, side, row, column);
        int leaf = row * folding.columnCount + column;
        return placeOn(sheet, folding.offsetOfFace[faceOf(leaf, side)]);
    }

    public int pageByRule(int sheet, int side, int row, int column)
            throws IndexOutOfBoundsException, IllegalArgumentException {
        checkLeafSide(sheet, side, row, column);
        return placeOn(sheet, folding.offsetByRule(side, row, column));
    }

    public int leafOf(int place) throws IndexOutOfBoundsException {
        checkPlace(place);
        int face = faceOfPage(place);
        return sideOf(face) * MOST_LEAVES + leafUnder(face);
    }

    public boolean isTurned(int place) throws IndexOutOfBoundsException {
        checkPlace(place);
        return folding.turned[leafUnder(faceOfPage(place))];
    }

    private int sheetCount() {
        return (pageCount + folding.pagesOfSheet() - 1) >> folding.shiftOfSheet();
    }

    /** The place of the page that comes as number offset on its sheet, -1 if there is none. */
    private int placeOn(int sheet, int offset) {
        int place = (sheet << folding.shiftOfSheet()) + offset;
        return place < pageCount ? place : -1;
    }

    private int faceOfPage(int place) {
        return folding.faceOfOffset[place & (folding.pagesOfSheet() - 1)];
    }

    private void checkLeafSide(int sheet, int side, int row, int column) {
        checkSheet(sheet);
        if (row < 0 || row >= folding.rowCount) {
            throw new IndexOutOfBoundsException("no such row");
        }
        if (column < 0 || column >= folding.columnCount) {
            throw new IndexOutOfBoundsException("no such column");
        }
        checkSide(side);
    }

    private void checkSheet(int sheet) {
        if (sheet < 0 || sheet >= sheetCount()) {
            throw new IndexOutOfBoundsException("no such sheet");
        }
    }

    private static void checkSide(int side) {
        if (side < 0 || side >= SIDES) {
            throw new IllegalArgumentException("side is out of range");
        }
    }

    /** A face is one side of one leaf, a number from 0 to 31. */
    private static int faceOf(int leaf, int side) {
        return leaf * SIDES + side;
    }

    private static int leafUnder(int face) {
        return face >> 1;
    }

    private static int sideOf(int face) {
        return face & 1;
    }

    // ---- fonts and days

    public int setRight(int font, int from, int to) throws IllegalArgumentException {
        checkFont(font);
        if (from < 0 || from > LAST_DAY_OF_RIGHTS) {
            throw new IllegalArgumentException("from is out of range");
        }
        if (to < from || to > LAST_DAY_OF_RIGHTS) {
            throw new IllegalArgumentException("to is out of range");
        }
        noteReadySheets();
        boolean could = usable(font);
        fontRow[font].give(from, to);
        dropProofsOfLostFont(font, could);
        return countSentBack();
    }

    public int withdraw(int font) throws IllegalArgumentException, IllegalStateException {
        checkFont(font);
        if (!fontRow[font].hasRight) {
            throw new IllegalStateException("the font has no right");
        }
        noteReadySheets();
        boolean could = usable(font);
        fontRow[font].hasRight = false;
        dropProofsOfLostFont(font, could);
        return countSentBack();
    }

    public int pass(int days) throws IllegalArgumentException {
        if (days < 1 || days > MOST_DAYS) {
            throw new IllegalArgumentException("days is out of range");
        }
        noteReadySheets();
        for (int passed = 0; passed < days; passed++) {
            startNextDay();
        }
        return countSentBack();
    }

    public int today() {
        return day;
    }

    public boolean mayUse(int font) throws IllegalArgumentException {
        checkFont(font);
        return usable(font);
    }

    private void startNextDay() {
        int yesterday = day;
        day++;
        for (int font = 0; font < FONTS; font++) {
            dropProofsOfLostFont(font, fontRow[font].allows(yesterday));
        }
    }

    private boolean usable(int font) {
        return fontRow[font].allows(day);
    }

    private void dropProofsOfLostFont(int font, boolean could) {
        if (!could || usable(font)) {
            return;
        }
        for (int place = 0; place < pageCount; place++) {
            if (order[place].usesFont(font)) {
                order[place].dropProofs();
            }
        }
    }

    private void noteReadySheets() {
        int many = sheetCount();
        for (int sheet = 0; sheet < MOST_SHEETS; sheet++) {
            readyBefore[sheet] = sheet < many && allFinishedOn(sheet);
        }
    }

    private int countSentBack() {
        int sentBack = 0;
        for (int sheet = 0; sheet < MOST_SHEETS; sheet++) {
            if (readyBefore[sheet] && !allFinishedOn(sheet)) {
                sentBack++;
            }
        }
        return sentBack;
    }

    private static void checkFont(int font) {
        if (font < 0 || font >= FONTS) {
            throw new IllegalArgumentException("font is out of range");
        }
    }

    // ---- proofs

    public int prove(int place, int color)
            throws IndexOutOfBoundsException, IllegalArgumentException, IllegalStateException {
        checkPlace(place);
        checkColor(color);
        Page page = order[place];
        if (!page.usesColor(color)) {
            throw new IllegalStateException("the page does not use the colour");
        }
        if (!allFontsUsable(page)) {
            throw new IllegalStateException("a font of the page may not be used");
        }
        if (page.proofs[color] == MADE || page.proofs[color] == APPROVED) {
            throw new IllegalStateException("the proof is made or approved");
        }
        page.proofs[color] = MADE;
        return page.countProofs(MADE) + page.countProofs(APPROVED);
    }

    public boolean judge(int place, int color, boolean approves)
            throws IndexOutOfBoundsException, IllegalArgumentException, IllegalStateException {
        checkPlace(place);
        checkColor(color);
        Page page = order[place];
        if (!page.usesColor(color) || page.proofs[color] != MADE) {
            throw new IllegalStateException("the proof is not made");
        }
        page.proofs[color] = approves ? APPROVED : REFUSED;
        return finished(page);
    }

    public int proof(int place, int color) throws IndexOutOfBoundsException, IllegalArgumentException {
        checkPlace(place);
        checkColor(color);
        Page page = order[place];
        return page.usesColor(color) ? page.proofs[color] : -1;
    }

    public boolean isReady(int sheet) throws IndexOutOfBoundsException {
        checkSheet(sheet);
        return allFinishedOn(sheet);
    }

    private boolean allFinishedOn(int sheet) {
        int first = sheet << folding.shiftOfSheet();
        int end = Math.min(first + folding.pagesOfSheet(), pageCount);
        for (int place = first; place < end; place++) {
            if (!finished(order[place])) {
                return false;
            }
        }
        return true;
    }

    private boolean finished(Page page) {
        return page.countProofs(APPROVED) == Integer.bitCount(page.colors) && allFontsUsable(page);
    }

    private boolean allFontsUsable(Page page) {
        for (int font = 0; font < FONTS; font++) {
            if (page.usesFont(font) && !usable(font)) {
                return false;
            }
        }
        return true;
    }

    private static void checkColor(int color) {
        if (color < 0 || color >= COLORS) {
            throw new IllegalArgumentException("color is out of range");
        }
    }

    // ---- plates and runs

    public int makePlates(int sheet) throws IndexOutOfBoundsException, IllegalStateException {
        checkSheet(sheet);
        checkReady(sheet);
        int before = platesMade;
        for (int side = 0; side < SIDES; side++) {
            for (int color = 0; color < COLORS; color++) {
                makePlateIfNeeded(sheet, side, color);
            }
        }
        return platesMade - before;
    }

    public int wear(int sheet, int side, int color) throws IndexOutOfBoundsException, IllegalArgumentException {
        checkSheet(sheet);
        checkSide(side);
        checkColor(color);
        lookUp(sheet, side, color);
        Plate plate = rack[slotOf(sheet, side, color)];
        return good(plate) ? plate.used : -1;
    }

    public int print(int sheet, int copies)
            throws IndexOutOfBoundsException, IllegalArgumentException, IllegalStateException {
        checkSheet(sheet);
        if (copies < 1 || copies > MOST_COPIES) {
            throw new IllegalArgumentException("copies is out of range");
        }
        checkReady(sheet);
        for (int side = 0; side < SIDES; side++) {
            for (int color = 0; color < COLORS; color++) {
                checkPlateLasts(sheet, side, color, copies);
            }
        }
        for (int side = 0; side < SIDES; side++) {
            for (int color = 0; color < COLORS; color++) {
                usePlateIfNeeded(sheet, side, color, copies);
            }
        }
        copiesPrinted += copies;
        return copiesPrinted;
    }

    public int plates() {
        return platesMade;
    }

    private void checkReady(int sheet) {
        if (!allFinishedOn(sheet)) {
            throw new IllegalStateException("the sheet is not ready");
        }
    }

    private void makePlateIfNeeded(int sheet, int side, int color) {
        lookUp(sheet, side, color);
        int slot = slotOf(sheet, side, color);
        if (markCount == 0 || good(rack[slot])) {
            return;
        }
        if (rack[slot] == null) {
            rack[slot] = new Plate();
        }
        rack[slot].engrave(marks, markCount);
        platesMade++;
    }

    private void checkPlateLasts(int sheet, int side, int color, int copies) {
        lookUp(sheet, side, color);
        if (markCount == 0) {
            return;
        }
        Plate plate = rack[slotOf(sheet, side, color)];
        if (!good(plate)) {
            throw new IllegalStateException("a plate is not there or not good");
        }
        if (plate.used + copies > PLATE_LIFE) {
            throw new IllegalStateException("a plate would be used too often");
        }
    }

    private void usePlateIfNeeded(int sheet, int side, int color, int copies) {
        lookUp(sheet, side, color);
        Plate plate = rack[slotOf(sheet, side, color)];
        if (markCount > 0 && plate != null) {
            plate.used += copies;
        }
    }

    private static int slotOf(int sheet, int side, int color) {
        return (sheet * SIDES + side) * COLORS + color;
    }

    /** Whether a plate is there, not worn, and shows what was looked up last. */
    private boolean good(Plate plate) {
        return plate != null && plate.used < PLATE_LIFE && plate.shows(marks, markCount);
    }

    /** Notes what a plate would show; row by row, so that equal plates have equal marks in an equal order. */
    private void lookUp(int sheet, int side, int color) {
        markCount = 0;
        int leaf = 0;
        for (int row = 0; row < folding.rowCount; row++) {
            for (int column = 0; column < folding.columnCount; column++) {
                int place = placeOn(sheet, folding.offsetOfFace[faceOf(leaf, side)]);
                if (place >= 0 && order[place].usesColor(color)) {
                    marks[markCount] = markOf(order[place], row, column, folding.turned[leaf]);
                    markCount++;
                }
                leaf++;
            }
        }
    }

    /** Row and column, not the number of the leaf: other folds can give that to another row and column. */
    private static long markOf(Page page, int row, int column, boolean turned) {
        long spot = (row * MOST_LEAVES + column) * 2 + (turned ? 1 : 0);
        long editionOfPage = page.edition * (long) MOST_PAGES_MADE + page.number;
        return editionOfPage * (MOST_LEAVES * MOST_LEAVES * 2) + spot;
    }

    // ---- what the desk is made of

    private static final class Page {
        final int number;
        final int[] proofs;
        int fonts;
        int colors;
        int edition;

        Page(int number, int fonts, int colors) {
            this.number = number;
            this.fonts = fonts;
            this.colors = colors;
            edition = 1;
            proofs = new int[COLORS];
        }

        boolean usesFont(int font) {
            return ((fonts >> font) & 1) != 0;
        }

        boolean usesColor(int color) {
            return ((colors >> color) & 1) != 0;
        }

        void rewrite(int newFonts, int newColors) {
            fonts = newFonts;
            colors = newColors;
            edition++;
            dropProofs();
        }

        void dropProofs() {
            for (int color = 0; color < COLORS; color++) {
                proofs[color] = NONE;
            }
        }

        /** Only a colour that the page uses can have another proof than none. */
        int countProofs(int kind) {
            int many = 0;
            for (int color = 0; color < COLORS; color++) {
                if (proofs[color] == kind) {
                    many++;
                }
            }
            return many;
        }
    }

    private static final class Font {
        boolean hasRight;
        int from;
        int to;

        void give(int first, int last) {
            hasRight = true;
            from = first;
            to = last;
        }

        boolean allows(int someDay) {
            return hasRight && from <= someDay && someDay <= to;
        }
    }

    private static final class Plate {
        final long[] shown;
        int shownCount;
        int used;

        Plate() {
            shown = new long[MOST_LEAVES];
        }

        void engrave(long[] marks, int many) {
            shownCount = Math.min(many, MOST_LEAVES);
            for (int at = 0; at < shownCount; at++) {
                shown[at] = marks[at];
            }
            used = 0;
        }

        boolean shows(long[] marks, int many) {
            if (many != shownCount) {
                return false;
            }
            for (int at = 0; at < shownCount; at++) {
                if (shown[at] != marks[at]) {
                    return false;
                }
            }
            return true;
        }
    }

    /** The folds of a sheet, and where its pages are laid by them; all sheets are folded alike. */
    private static final class Folding {
        final int[] kinds;
        final boolean[] turned;
        final int[] offsetOfFace;
        final int[] faceOfOffset;
        /** The faces that look up in the piles, from the lowest leaf of the first pile on. */
        final int[] piled;
        final int[] folded;
        int foldCount;
        int leafCount;
        int rowCount;
        int columnCount;

        Folding() {
            kinds = new int[MOST_FOLDS];
            turned = new boolean[MOST_LEAVES];
            offsetOfFace = new int[MOST_LEAVES * SIDES];
            faceOfOffset = new int[MOST_LEAVES * SIDES];
            piled = new int[MOST_LEAVES];
            folded = new int[MOST_LEAVES];
        }

        int pagesOfSheet() {
            return 1 << (foldCount + 1);
        }

        int shiftOfSheet() {
            return foldCount + 1;
        }

        void foldBy(int many, int folds) {
            foldCount = many;
            leafCount = 1 << many;
            rowCount = 1;
            columnCount = 1;
            for (int fold = 0; fold < foldCount; fold++) {
                kinds[fold] = (folds >> (2 * fold)) & 3;
                if (isSideways(kinds[fold])) {
                    columnCount *= 2;
                } else {
                    rowCount *= 2;
                }
            }
            foldFlatSheet();
            readPile();
        }

        private static boolean isSideways(int kind) {
            return kind == RIGHT || kind == LEFT;
        }

        private void foldFlatSheet() {
            for (int leaf = 0; leaf < leafCount; leaf++) {
                piled[leaf] = faceOf(leaf, 0);
                turned[leaf] = false;
            }
            int rowsLeft = rowCount;
            int columnsLeft = columnCount;
            int height = 1;
            for (int fold = 0; fold < foldCount; fold++) {
                if (isSideways(kinds[fold])) {
                    columnsLeft = columnsLeft / 2;
                    foldSideways(kinds[fold], rowsLeft, columnsLeft, height);
                } else {
                    rowsLeft = rowsLeft / 2;
                    foldUpOrDown(kinds[fold], rowsLeft, columnsLeft, height);
                }
                height *= 2;
                System.arraycopy(folded, 0, piled, 0, leafCount);
            }
        }

        /** Folds to so many rows and columns; the piles are as high as told ahead of it. */
        private void foldSideways(int kind, int rowsLeft, int columnsLeft, int height) {
            for (int row = 0; row < rowsLeft; row++) {
                for (int column = 0; column < columnsLeft; column++) {
                    int stays = kind == LEFT ? columnsLeft + column : column;
                    int goesOver = 2 * columnsLeft - 1 - stays;
                    int firstOfRow = row * 2 * columnsLeft;
                    layOver(row * columnsLeft + column, firstOfRow + stays, firstOfRow + goesOver, height);
                }
            }
        }

        private void foldUpOrDown(int kind, int rowsLeft, int columnsLeft, int height) {
            for (int row = 0; row < rowsLeft; row++) {
                int stays = kind == TOP ? rowsLeft + row : row;
                int goesOver = 2 * rowsLeft - 1 - stays;
                for (int column = 0; column < columnsLeft; column++) {
                    int pileOver = goesOver * columnsLeft + column;
                    turnLeaves(pileOver, height);
                    layOver(row * columnsLeft + column, stays * columnsLeft + column, pileOver, height);
                }
            }
        }

        private void turnLeaves(int pile, int height) {
            for (int level = 0; level < height; level++) {
                int leaf = leafUnder(piled[pile * height + level]);
                turned[leaf] = !turned[leaf];
            }
        }

        /** The new pile is the one that stays, with the other one upside down on top. */
        private void layOver(int newPile, int pileThatStays, int pileOver, int height) {
            int lowest = newPile * 2 * height;
            for (int level = 0; level < height; level++) {
                folded[lowest + level] = piled[pileThatStays * height + level];
                int face = piled[pileOver * height + height - 1 - level];
                folded[lowest + height + level] = faceOf(leafUnder(face), 1 - sideOf(face));
            }
        }

        private void readPile() {
            int offset = 0;
            for (int level = leafCount - 1; level >= 0; level--) {
                int up = piled[level];
                int down = faceOf(leafUnder(up), 1 - sideOf(up));
                faceOfOffset[offset] = up;
                faceOfOffset[offset + 1] = down;
                offsetOfFace[up] = offset;
                offsetOfFace[down] = offset + 1;
                offset += 2;
            }
        }

        int offsetByRule(int side, int row, int column) {
            int halfRows = rowCount;
            int halfColumns = columnCount;
            int rowNow = row;
            int columnNow = column;
            int below = 0;
            int sideUp = 0;
            int leavesNow = 1;
            for (int fold = 0; fold < foldCount; fold++) {
                boolean upperStays = kinds[fold] == RIGHT || kinds[fold] == BOTTOM;
                boolean over;
                if (isSideways(kinds[fold])) {
                    halfColumns = halfColumns / 2;
                    over = upperStays == (columnNow >= halfColumns);
                    columnNow = foldedSpot(columnNow, halfColumns, upperStays);
                } else {
                    halfRows = halfRows / 2;
                    over = upperStays == (rowNow >= halfRows);
                    rowNow = foldedSpot(rowNow, halfRows, upperStays);
                }
                if (over) {
                    below = 2 * leavesNow - 1 - below;
                    sideUp = 1 - sideUp;
                }
                leavesNow *= 2;
            }
            int above = leavesNow - 1 - below;
            return 2 * above + (side == sideUp ? 0 : 1);
        }

        /** Where a row or column comes to lie, counted in the half that stays. */
        private static int foldedSpot(int spot, int half, boolean upperStays) {
            if (upperStays) {
                return spot < half ? spot : 2 * half - 1 - spot;
            }
            return spot < half ? half - 1 - spot : spot - half;
        }
    }
}
