/** Promises 26 to 29: plates and runs. */
public final class PlatesTest {
    private static final Due due = new Due();

    public static void main(String[] args) {
        makePlates();
        makePlatesOfManyPages();
        makePlatesRefuses();
        platesAreMadeAnew();
        wear();
        wearRefuses();
        plateShowsThePagesThemselves();
        plateShowsTheEdition();
        plateShowsWhereAndTurned();
        plateShowsRowAndColumn();
        platesAreKept();
        print();
        printRefuses();
        printNeedsGoodPlates();
        printWears();
        plates();
        due.end();
    }

    private static void wearIs(String what, ProofSheet desk, int sheet, int side, int color, int want) {
        due.answers(what + ": wear(" + sheet + ", " + side + ", " + color + ")", want,
                () -> desk.wear(sheet, side, color));
    }

    private static ProofSheet readyDesk(int pages, int colors) {
        ProofSheet desk = Due.deskWith(pages, colors);
        if (pages > 0) {
            Due.approveAll(desk, 0, pages - 1);
        }
        return desk;
    }

    /** Front: the pages 1 and 2, back: 0 and 3. */
    private static void makePlates() {
        ProofSheet desk = new ProofSheet();
        int[] colors = {1, 2, 6, 0, 15};
        for (int place = 0; place < colors.length; place++) {
            desk.insert(place, 0, colors[place]);
        }
        Due.approveAll(desk, 0, 4);
        due.answers("26: the first sheet", 3, () -> desk.makePlates(0));
        due.answers("26: all are good", 0, () -> desk.makePlates(0));
        wearIs("26: made", desk, 0, 1, 0, 0);
        wearIs("26: made", desk, 0, 0, 1, 0);
        wearIs("26: made", desk, 0, 0, 2, 0);
        wearIs("26: not needed", desk, 0, 0, 0, -1);
        wearIs("26: not needed", desk, 0, 1, 1, -1);
        wearIs("26: of the other sheet", desk, 1, 1, 0, -1);
        due.answers("26: the second sheet", 4, () -> desk.makePlates(1));
        wearIs("26: made", desk, 1, 1, 3, 0);
        wearIs("26: no page is on that side", desk, 1, 0, 3, -1);
        due.answers("26: a sheet without colours", 0, () -> readyDesk(4, 0).makePlates(0));
        due.answers("26: all plates of a sheet", 8, () -> readyDesk(4, 15).makePlates(0));
    }

    private static void makePlatesOfManyPages() {
        ProofSheet large = readyDesk(32, 1);
        large.setFolds(4, 27);
        due.answers("26: 16 pages on a side", 2, () -> large.makePlates(0));
        wearIs("26: 16 pages on a side", large, 0, 1, 0, 0);
        large.move(31, 30);
        wearIs("26: the last two have changed sides", large, 0, 0, 0, -1);
        ProofSheet many = Due.deskWith(64, 8);
        Due.approveAll(many, 60, 63);
        due.answers("26: the last of 16 sheets", 2, () -> many.makePlates(15));
        due.answers("28: the last of 16 sheets", 9, () -> many.print(15, 9));
        wearIs("26: the last of 16 sheets", many, 15, 1, 3, 9);
    }

    private static void makePlatesRefuses() {
        ProofSheet desk = readyDesk(5, 1);
        int[] noSheet = {-1, 2, Integer.MAX_VALUE, Integer.MIN_VALUE};
        for (int sheet : noSheet) {
            due.refuses("26: makePlates(" + sheet + ")", Due.INDEX, () -> desk.makePlates(sheet));
        }
        desk.edit(4, 0, 1);
        due.refuses("26: not ready", Due.STATE, () -> desk.makePlates(1));
        due.answers("26: none was made", 0, () -> desk.plates());
        due.answers("26: the other sheet is ready", 2, () -> desk.makePlates(0));
    }

    private static void platesAreMadeAnew() {
        ProofSheet desk = readyDesk(4, 3);
        due.answers("26: all at first", 4, () -> desk.makePlates(0));
        desk.print(0, 7);
        desk.edit(1, 0, 1);
        Due.approveAll(desk, 1, 1);
        due.answers("26: both plates that showed the page", 2, () -> desk.makePlates(0));
        wearIs("26: new", desk, 0, 0, 0, 0);
        wearIs("26: new, without the page", desk, 0, 0, 1, 0);
        wearIs("26: still good", desk, 0, 1, 0, 7);
        wearIs("26: still good", desk, 0, 1, 1, 7);
        desk.print(0, 500);
        desk.print(0, 493);
        due.answers("26: two are worn", 2, () -> desk.makePlates(0));
        wearIs("26: not worn", desk, 0, 0, 0, 993);
        wearIs("26: made anew", desk, 0, 1, 0, 0);
        due.answers("26: none is worn", 0, () -> desk.makePlates(0));
    }

    private static void wear() {
        ProofSheet desk = readyDesk(8, 1);
        wearIs("27: not made", desk, 0, 0, 0, -1);
        desk.makePlates(1);
        wearIs("27: of another sheet", desk, 0, 0, 0, -1);
        wearIs("27: made", desk, 1, 0, 0, 0);
        desk.print(1, 1);
        wearIs("27: used", desk, 1, 0, 0, 1);
        desk.print(1, 500);
        wearIs("27: used more", desk, 1, 1, 0, 501);
        desk.print(1, 498);
        wearIs("27: used for 999", desk, 1, 1, 0, 999);
        desk.print(1, 1);
        wearIs("27: used for 1000", desk, 1, 1, 0, -1);
        wearIs("27: another colour", desk, 1, 1, 1, -1);
    }

    private static void wearRefuses() {
        ProofSheet desk = readyDesk(4, 1);
        int most = Integer.MAX_VALUE;
        int[][] noSheet = {{-1, 0, 0}, {1, 0, 0}, {1, 2, 0}, {1, 0, 4}, {most, most, most}};
        for (int[] w : noSheet) {
            due.refuses("27: no sheet " + w[0], Due.INDEX, () -> desk.wear(w[0], w[1], w[2]));
        }
        int[][] wrong = {{0, -1, 0}, {0, 2, 0}, {0, 0, -1}, {0, 0, 4}, {0, most, 0}, {0, 0, Integer.MIN_VALUE}};
        for (int[] w : wrong) {
            due.refuses("27: wear(0, " + w[1] + ", " + w[2] + ")", Due.ARGUMENT, () -> desk.wear(w[0], w[1], w[2]));
        }
        due.refuses("27: without sheets", Due.INDEX, () -> new ProofSheet().wear(0, 0, 0));
    }

    private static void plateShowsThePagesThemselves() {
        ProofSheet desk = readyDesk(8, 1);
        desk.makePlates(0);
        desk.makePlates(1);
        desk.move(0, 3);
        wearIs("27: two pages change", desk, 0, 1, 0, -1);
        wearIs("27: on the front too", desk, 0, 0, 0, -1);
        wearIs("27: not on the other sheet", desk, 1, 1, 0, 0);
        desk.move(3, 0);
        wearIs("27: back in the old order", desk, 0, 1, 0, 0);
        desk.move(7, 0);
        desk.move(0, 7);
        wearIs("27: there and back", desk, 1, 0, 0, 0);
        desk.remove(0);
        desk.insert(0, 0, 1);
        Due.approveAll(desk, 0, 0);
        wearIs("27: another page that looks the same", desk, 0, 1, 0, -1);
        wearIs("27: it is not on the front", desk, 0, 0, 0, 0);
    }

    private static void plateShowsTheEdition() {
        ProofSheet desk = new ProofSheet();
        desk.insert(0, 0, 1);
        desk.insert(1, 1, 3);
        desk.insert(2, 0, 3);
        desk.setRight(0, 0, 9);
        desk.setRight(1, 0, 9);
        Due.approveAll(desk, 0, 2);
        desk.makePlates(0);
        desk.replace(0, 1);
        wearIs("27: another edition by replace()", desk, 0, 0, 0, -1);
        wearIs("27: of both colours", desk, 0, 0, 1, -1);
        wearIs("27: not on this side", desk, 0, 1, 0, 0);
        due.answers("27: not ready", 0, () -> Due.bit(desk.isReady(0)));
        desk.edit(0, 0, 2);
        wearIs("27: not needed any more", desk, 0, 1, 0, -1);
        desk.edit(0, 0, 1);
        wearIs("27: the old colours, another edition", desk, 0, 1, 0, -1);
        desk.withdraw(1);
        Due.approveAll(desk, 0, 0);
        wearIs("27: proofs do not count", desk, 0, 1, 0, -1);
        ProofSheet other = readyDesk(3, 1);
        other.makePlates(0);
        other.edit(2, 0, 1);
        wearIs("27: without being ready", other, 0, 1, 0, 0);
        wearIs("27: its other side", other, 0, 0, 0, -1);
    }

    /** LEFT and TOP lay the first page at the back of the leaf in the row 0 and the column 0. */
    private static void plateShowsWhereAndTurned() {
        ProofSheet desk = readyDesk(2, 1);
        desk.setFolds(1, ProofSheet.LEFT);
        due.answers("27: both sides", 2, () -> desk.makePlates(0));
        desk.setFolds(1, ProofSheet.TOP);
        wearIs("27: at the same spot, turned", desk, 0, 1, 0, -1);
        wearIs("27: at the same spot, turned", desk, 0, 0, 0, -1);
        desk.setFolds(1, ProofSheet.RIGHT);
        wearIs("27: at another column", desk, 0, 1, 0, -1);
        desk.setFolds(2, 5);
        wearIs("27: at another column of four", desk, 0, 1, 0, -1);
        desk.setFolds(1, ProofSheet.LEFT);
        wearIs("27: as it was made", desk, 0, 1, 0, 0);
        desk.setFolds(2, 0);
        desk.makePlates(0);
        desk.print(0, 3);
        due.answers("27: RIGHT, RIGHT: page 0 on the second leaf", 17, () -> desk.leafOf(0));
        desk.setFolds(1, 0);
        due.answers("27: RIGHT: page 0 on the second leaf", 17, () -> desk.leafOf(0));
        wearIs("27: other folds, laid alike", desk, 0, 1, 0, 3);
    }

    /** The leaf number 1 is in the row 0 and the column 1 of LEFT, in the row 1 and the column 0 of TOP. */
    private static void plateShowsRowAndColumn() {
        ProofSheet desk = new ProofSheet();
        int[] colors = {0, 0, 1, 1};
        for (int place = 0; place < colors.length; place++) {
            desk.insert(place, 0, colors[place]);
        }
        Due.approveAll(desk, 0, 3);
        desk.setFolds(1, ProofSheet.LEFT);
        desk.makePlates(0);
        wearIs("27: LEFT", desk, 0, 0, 0, 0);
        desk.setFolds(1, ProofSheet.TOP);
        due.answers("27: TOP lays it at the leaf 1 too", 1, () -> desk.leafOf(2));
        due.answers("27: not turned", 0, () -> Due.bit(desk.isTurned(2)));
        wearIs("27: in another row and column", desk, 0, 0, 0, -1);
    }

    private static void platesAreKept() {
        ProofSheet desk = readyDesk(8, 1);
        desk.makePlates(1);
        desk.print(1, 4);
        desk.setFolds(2, 0);
        due.answers("26: one sheet", 1, () -> desk.sheets());
        desk.setFolds(1, 0);
        wearIs("26: kept while sheets were fewer", desk, 1, 0, 0, 4);
        desk.move(7, 0);
        desk.insert(0, 0, 0);
        due.answers("26: other pages", 2, () -> desk.makePlates(0));
        desk.remove(0);
        desk.move(0, 7);
        wearIs("26: kept behind other pages", desk, 1, 1, 0, 4);
        desk.setFolds(4, 255);
        desk.makePlates(0);
        due.answers("26: made so far", 6, () -> desk.plates());
        desk.setFolds(1, 0);
        wearIs("26: kept while the other sheet was made", desk, 1, 1, 0, 4);
        wearIs("26: that one has new ones", desk, 0, 1, 0, -1);
        due.answers("26: good still", 0, () -> desk.makePlates(1));
    }

    private static void print() {
        ProofSheet desk = readyDesk(8, 1);
        desk.makePlates(0);
        desk.makePlates(1);
        due.answers("28: print(0, 1)", 1, () -> desk.print(0, 1));
        due.answers("28: print(0, 500)", 501, () -> desk.print(0, 500));
        due.answers("28: another sheet", 511, () -> desk.print(1, 10));
        wearIs("28: used", desk, 0, 0, 0, 501);
        wearIs("28: used", desk, 1, 1, 0, 10);
        ProofSheet plain = readyDesk(1, 0);
        for (int many = 1; many <= 10; many++) {
            int want = many * 500;
            due.answers("28: without plates", want, () -> plain.print(0, 500));
        }
    }

    private static void printRefuses() {
        ProofSheet desk = readyDesk(4, 1);
        int most = Integer.MAX_VALUE;
        int[][] noSheet = {{-1, 1}, {1, 1}, {1, 0}, {1, 501}, {most, most}, {Integer.MIN_VALUE, 0}};
        for (int[] w : noSheet) {
            due.refuses("28: print(" + w[0] + ", " + w[1] + ")", Due.INDEX, () -> desk.print(w[0], w[1]));
        }
        int[] wrong = {0, -1, 501, most, Integer.MIN_VALUE};
        for (int copies : wrong) {
            due.refuses("28: print(0, " + copies + ")", Due.ARGUMENT, () -> desk.print(0, copies));
        }
        due.refuses("28: no plate is made", Due.STATE, () -> desk.print(0, 1));
        desk.makePlates(0);
        desk.edit(0, 0, 0);
        desk.edit(0, 0, 1);
        due.refuses("28: wrong copies, not ready", Due.ARGUMENT, () -> desk.print(0, 0));
        due.refuses("28: not ready", Due.STATE, () -> desk.print(0, 1));
        wearIs("28: nothing is used", desk, 0, 0, 0, 0);
        Due.approveAll(desk, 0, 0);
        due.refuses("28: ready, one plate is not good", Due.STATE, () -> desk.print(0, 1));
        wearIs("28: nothing is used", desk, 0, 0, 0, 0);
        desk.makePlates(0);
        due.answers("28: none was printed before", 5, () -> desk.print(0, 5));
    }

    private static void printNeedsGoodPlates() {
        ProofSheet desk = readyDesk(4, 1);
        desk.makePlates(0);
        desk.edit(0, 0, 0);
        due.refuses("28: the plate shows a page too many", Due.STATE, () -> desk.print(0, 1));
        desk.edit(3, 0, 0);
        due.answers("28: a plate that is not needed need not be good", 1, () -> desk.print(0, 1));
        desk.setFolds(1, 1);
        due.refuses("28: laid otherwise", Due.STATE, () -> desk.print(0, 1));
        desk.setFolds(1, 0);
        due.answers("28: laid as they were", 2, () -> desk.print(0, 1));
        desk.setRight(0, 0, 0);
        desk.edit(1, 1, 1);
        Due.approveAll(desk, 1, 1);
        desk.makePlates(0);
        due.answers("28: with a font", 3, () -> desk.print(0, 1));
        desk.pass(1);
        due.refuses("28: its right has ended", Due.STATE, () -> desk.print(0, 1));
        wearIs("28: the plate stays good", desk, 0, 0, 0, 1);
    }

    private static void printWears() {
        ProofSheet desk = readyDesk(4, 1);
        desk.makePlates(0);
        desk.print(0, 500);
        desk.print(0, 499);
        due.refuses("28: for 1001 copies", Due.STATE, () -> desk.print(0, 2));
        wearIs("28: nothing is used", desk, 0, 1, 0, 999);
        due.answers("28: for 1000 copies", 1000, () -> desk.print(0, 1));
        due.refuses("28: worn", Due.STATE, () -> desk.print(0, 1));
        desk.makePlates(0);
        due.answers("28: made anew", 1500, () -> desk.print(0, 500));
        desk.edit(2, 0, 1);
        Due.approveAll(desk, 2, 2);
        desk.makePlates(0);
        desk.print(0, 300);
        wearIs("28: the front is new", desk, 0, 0, 0, 300);
        due.refuses("28: the back would be used too often", Due.STATE, () -> desk.print(0, 201));
        wearIs("28: the front is not used", desk, 0, 0, 0, 300);
        due.answers("28: not too often", 2000, () -> desk.print(0, 200));
    }

    private static void plates() {
        ProofSheet desk = readyDesk(8, 5);
        due.answers("29: at first", 0, () -> desk.plates());
        desk.makePlates(0);
        due.answers("29: one sheet", 4, () -> desk.plates());
        desk.makePlates(0);
        due.answers("29: none anew", 4, () -> desk.plates());
        desk.makePlates(1);
        due.answers("29: two sheets", 8, () -> desk.plates());
        desk.remove(7);
        due.answers("29: plates not needed count still", 8, () -> desk.plates());
        desk.edit(0, 0, 1);
        Due.approveAll(desk, 0, 0);
        desk.makePlates(0);
        due.answers("29: both of the back are made anew", 10, () -> desk.plates());
    }
}
