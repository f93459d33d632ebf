import java.util.ArrayList;
import java.util.Collections;
import java.util.HashMap;
import java.util.List;
import java.util.Map;

/** The document once more, in its plainest form, for ModelTest; written apart from the class, with the library. */
final class PlainDesk {
    private static final class Page {
        int fonts;
        int colors;
        int edition = 1;
        int[] proofs = new int[4];

        void rewrite(int newFonts, int newColors) {
            fonts = newFonts;
            colors = newColors;
            edition++;
            proofs = new int[4];
        }
    }

    /** What a plate shows of one page. */
    private record Spot(Page page, int edition, int row, int column, boolean turned) {
    }

    private static final class Plate {
        List<Spot> spots;
        int used;
    }

    /** A leaf in a pile; up is the side that looks up. */
    private static final class Leaf {
        int row;
        int column;
        int up;
        boolean turned;
    }

    private final List<Page> order = new ArrayList<>();
    private final Map<String, Plate> rack = new HashMap<>();
    private final int[][] rights = new int[8][];
    private int[] kinds = {0};
    private List<Leaf> book = folded();
    private int made;
    private int day;
    private int platesMade;
    private int copiesPrinted;

    private static void index(boolean asDue) {
        if (!asDue) {
            throw new IndexOutOfBoundsException();
        }
    }

    private static void argument(boolean asDue) {
        if (!asDue) {
            throw new IllegalArgumentException();
        }
    }

    private static void state(boolean asDue) {
        if (!asDue) {
            throw new IllegalStateException();
        }
    }

    private static boolean within(int what, int least, int most) {
        return least <= what && what <= most;
    }

    private Page page(int place) {
        index(within(place, 0, order.size() - 1));
        return order.get(place);
    }

    int insert(int place, int fonts, int colors) {
        index(within(place, 0, order.size()));
        argument(within(fonts, 0, 255) && within(colors, 0, 15));
        state(order.size() < 64 && made < 100);
        Page page = new Page();
        page.fonts = fonts;
        page.colors = colors;
        order.add(place, page);
        made++;
        return order.size();
    }

    int remove(int place) {
        order.remove(page(place));
        return order.size();
    }

    void move(int place, int other) {
        Page page = page(place);
        page(other);
        order.remove(place);
        order.add(other, page);
    }

    int edit(int place, int fonts, int colors) {
        Page page = page(place);
        argument(within(fonts, 0, 255) && within(colors, 0, 15));
        page.rewrite(fonts, colors);
        return page.edition;
    }

    int replace(int font, int other) {
        argument(within(font, 0, 7) && within(other, 0, 7) && font != other);
        int many = 0;
        for (Page page : order) {
            if (uses(page.fonts, font)) {
                page.rewrite(page.fonts - (1 << font) | 1 << other, page.colors);
                many++;
            }
        }
        return many;
    }

    int pages() {
        return order.size();
    }

    int edition(int place) {
        return page(place).edition;
    }

    int setFolds(int many, int folds) {
        argument(within(many, 1, 4));
        argument(within(folds, 0, (int) Math.pow(4, many) - 1));
        kinds = new int[many];
        int rest = folds;
        for (int fold = 0; fold < many; fold++) {
            kinds[fold] = rest % 4;
            rest /= 4;
        }
        book = folded();
        return sheets();
    }

    private int pagesOfSheet() {
        return 2 * (int) Math.pow(2, kinds.length);
    }

    int sheets() {
        return (order.size() + pagesOfSheet() - 1) / pagesOfSheet();
    }

    int rows() {
        int many = 1;
        for (int kind : kinds) {
            many *= kind >= 2 ? 2 : 1;
        }
        return many;
    }

    int columns() {
        int many = 1;
        for (int kind : kinds) {
            many *= kind < 2 ? 2 : 1;
        }
        return many;
    }

    /** The leaves as they lie on one another in the end, from the top. */
    private List<Leaf> folded() {
        List<List<List<Leaf>>> lying = new ArrayList<>();
        for (int row = 0; row < rows(); row++) {
            List<List<Leaf>> piles = new ArrayList<>();
            for (int column = 0; column < columns(); column++) {
                Leaf leaf = new Leaf();
                leaf.row = row;
                leaf.column = column;
                piles.add(new ArrayList<>(List.of(leaf)));
            }
            lying.add(piles);
        }
        for (int kind : kinds) {
            lying = foldOnce(lying, kind);
        }
        List<Leaf> fromTop = new ArrayList<>(lying.get(0).get(0));
        Collections.reverse(fromTop);
        return fromTop;
    }

    /** Lays piles onto piles from the fold's crease outwards. */
    private static List<List<List<Leaf>>> foldOnce(List<List<List<Leaf>>> lying, int kind) {
        if (kind == 2 || kind == 3) {
            int half = lying.size() / 2;
            for (int fromCrease = 0; fromCrease < half; fromCrease++) {
                List<List<Leaf>> upper = lying.get(half - 1 - fromCrease);
                List<List<Leaf>> lower = lying.get(half + fromCrease);
                for (int column = 0; column < upper.size(); column++) {
                    if (kind == 2) {
                        turnOnto(lower.get(column), upper.get(column), true);
                    } else {
                        turnOnto(upper.get(column), lower.get(column), true);
                    }
                }
            }
            return new ArrayList<>(kind == 2 ? lying.subList(0, half) : lying.subList(half, 2 * half));
        }
        List<List<List<Leaf>>> left = new ArrayList<>();
        for (List<List<Leaf>> row : lying) {
            int half = row.size() / 2;
            for (int fromCrease = 0; fromCrease < half; fromCrease++) {
                List<Leaf> west = row.get(half - 1 - fromCrease);
                List<Leaf> east = row.get(half + fromCrease);
                if (kind == 0) {
                    turnOnto(east, west, false);
                } else {
                    turnOnto(west, east, false);
                }
            }
            left.add(new ArrayList<>(kind == 0 ? row.subList(0, half) : row.subList(half, 2 * half)));
        }
        return left;
    }

    private static void turnOnto(List<Leaf> pile, List<Leaf> onto, boolean turns) {
        while (!pile.isEmpty()) {
            Leaf leaf = pile.remove(pile.size() - 1);
            leaf.up = 1 - leaf.up;
            leaf.turned ^= turns;
            onto.add(leaf);
        }
    }

    int pageAt(int sheet, int side, int row, int column) {
        index(within(sheet, 0, sheets() - 1) && within(row, 0, rows() - 1) && within(column, 0, columns() - 1));
        argument(within(side, 0, 1));
        for (int depth = 0; depth < book.size(); depth++) {
            Leaf leaf = book.get(depth);
            if (leaf.row == row && leaf.column == column) {
                int place = sheet * pagesOfSheet() + 2 * depth + (leaf.up == side ? 0 : 1);
                return place < order.size() ? place : -1;
            }
        }
        throw new AssertionError("no leaf");
    }

    private Leaf leafWith(int place) {
        page(place);
        return book.get(place % pagesOfSheet() / 2);
    }

    private int sideWith(int place) {
        Leaf leaf = leafWith(place);
        return place % 2 == 0 ? leaf.up : 1 - leaf.up;
    }

    int leafOf(int place) {
        Leaf leaf = leafWith(place);
        return sideWith(place) * 16 + leaf.row * columns() + leaf.column;
    }

    boolean isTurned(int place) {
        return leafWith(place).turned;
    }

    int setRight(int font, int from, int to) {
        argument(within(font, 0, 7) && within(from, 0, 9999) && within(to, from, 9999));
        List<Integer> ready = readySheets();
        boolean could = usable(font);
        rights[font] = new int[] {from, to};
        lose(font, could);
        return sentBack(ready);
    }

    int withdraw(int font) {
        argument(within(font, 0, 7));
        state(rights[font] != null);
        List<Integer> ready = readySheets();
        boolean could = usable(font);
        rights[font] = null;
        lose(font, could);
        return sentBack(ready);
    }

    int pass(int days) {
        argument(within(days, 1, 100));
        List<Integer> ready = readySheets();
        for (int passed = 0; passed < days; passed++) {
            boolean[] could = new boolean[8];
            for (int font = 0; font < 8; font++) {
                could[font] = usable(font);
            }
            day++;
            for (int font = 0; font < 8; font++) {
                lose(font, could[font]);
            }
        }
        return sentBack(ready);
    }

    int today() {
        return day;
    }

    boolean mayUse(int font) {
        argument(within(font, 0, 7));
        return usable(font);
    }

    private boolean usable(int font) {
        return rights[font] != null && within(day, rights[font][0], rights[font][1]);
    }

    private void lose(int font, boolean could) {
        for (Page page : order) {
            if (could && !usable(font) && uses(page.fonts, font)) {
                page.proofs = new int[4];
            }
        }
    }

    private List<Integer> readySheets() {
        List<Integer> ready = new ArrayList<>();
        for (int sheet = 0; sheet < sheets(); sheet++) {
            if (isReady(sheet)) {
                ready.add(sheet);
            }
        }
        return ready;
    }

    private int sentBack(List<Integer> ready) {
        ready.removeAll(readySheets());
        return ready.size();
    }

    private static boolean uses(int set, int one) {
        return set / (1 << one) % 2 == 1;
    }

    private boolean allFontsUsable(Page page) {
        return missingFont(page) == -1;
    }

    private int missingFont(Page page) {
        for (int font = 0; font < 8; font++) {
            if (uses(page.fonts, font) && !usable(font)) {
                return font;
            }
        }
        return -1;
    }

    /** The first font of a page that may not be used today, -1 if there is none. */
    int missingFont(int place) {
        return missingFont(page(place));
    }

    private boolean finished(Page page) {
        for (int color = 0; color < 4; color++) {
            if (uses(page.colors, color) && page.proofs[color] != ProofSheet.APPROVED) {
                return false;
            }
        }
        return allFontsUsable(page);
    }

    int prove(int place, int color) {
        Page page = page(place);
        argument(within(color, 0, 3));
        int proof = page.proofs[color];
        state(uses(page.colors, color) && allFontsUsable(page));
        state(proof == ProofSheet.NONE || proof == ProofSheet.REFUSED);
        page.proofs[color] = ProofSheet.MADE;
        int many = 0;
        for (int one : page.proofs) {
            many += one == ProofSheet.MADE || one == ProofSheet.APPROVED ? 1 : 0;
        }
        return many;
    }

    boolean judge(int place, int color, boolean approves) {
        Page page = page(place);
        argument(within(color, 0, 3));
        state(page.proofs[color] == ProofSheet.MADE);
        page.proofs[color] = approves ? ProofSheet.APPROVED : ProofSheet.REFUSED;
        return finished(page);
    }

    int proof(int place, int color) {
        Page page = page(place);
        argument(within(color, 0, 3));
        return uses(page.colors, color) ? page.proofs[color] : -1;
    }

    boolean isReady(int sheet) {
        index(within(sheet, 0, sheets() - 1));
        for (int place = sheet * pagesOfSheet(); place < (sheet + 1) * pagesOfSheet(); place++) {
            if (place < order.size() && !finished(order.get(place))) {
                return false;
            }
        }
        return true;
    }

    /** What a plate would show; the pages are told apart as objects, row by row. */
    private List<Spot> spots(int sheet, int side, int color) {
        List<Spot> spots = new ArrayList<>();
        for (int row = 0; row < rows(); row++) {
            for (int column = 0; column < columns(); column++) {
                int place = pageAt(sheet, side, row, column);
                if (place >= 0 && uses(order.get(place).colors, color)) {
                    Page page = order.get(place);
                    spots.add(new Spot(page, page.edition, row, column, isTurned(place)));
                }
            }
        }
        return spots;
    }

    private Plate goodPlate(int sheet, int side, int color) {
        Plate plate = rack.get(sheet + "/" + side + "/" + color);
        boolean good = plate != null && plate.used < 1000 && plate.spots.equals(spots(sheet, side, color));
        return good ? plate : null;
    }

    int makePlates(int sheet) {
        index(within(sheet, 0, sheets() - 1));
        state(isReady(sheet));
        int many = 0;
        for (int which = 0; which < 8; which++) {
            List<Spot> spots = spots(sheet, which / 4, which % 4);
            if (!spots.isEmpty() && goodPlate(sheet, which / 4, which % 4) == null) {
                Plate plate = new Plate();
                plate.spots = spots;
                rack.put(sheet + "/" + which / 4 + "/" + which % 4, plate);
                many++;
            }
        }
        platesMade += many;
        return many;
    }

    int wear(int sheet, int side, int color) {
        index(within(sheet, 0, sheets() - 1));
        argument(within(side, 0, 1) && within(color, 0, 3));
        Plate plate = goodPlate(sheet, side, color);
        return plate == null ? -1 : plate.used;
    }

    int print(int sheet, int copies) {
        index(within(sheet, 0, sheets() - 1));
        argument(within(copies, 1, 500));
        state(isReady(sheet));
        List<Plate> needed = new ArrayList<>();
        for (int which = 0; which < 8; which++) {
            if (!spots(sheet, which / 4, which % 4).isEmpty()) {
                Plate plate = goodPlate(sheet, which / 4, which % 4);
                state(plate != null && plate.used + copies <= 1000);
                needed.add(plate);
            }
        }
        for (Plate plate : needed) {
            plate.used += copies;
        }
        copiesPrinted += copies;
        return copiesPrinted;
    }

    int plates() {
        return platesMade;
    }
}
