/** Promises 22 to 25: proofs, and sheets that are ready. */
public final class ProofsTest {
    private static final Due due = new Due();

    public static void main(String[] args) {
        prove();
        proveRefuses();
        proveNeedsFonts();
        judge();
        judgeRefuses();
        judgeNeedsAllColors();
        proof();
        isReady();
        isReadyByFonts();
        due.end();
    }

    private static void proofIs(String what, ProofSheet desk, int place, int color, int want) {
        due.answers(what + ": proof(" + place + ", " + color + ")", want, () -> desk.proof(place, color));
    }

    private static void prove() {
        ProofSheet desk = Due.deskWith(2, 15);
        due.answers("22: the first proof", 1, () -> desk.prove(0, 2));
        due.answers("22: the second one", 2, () -> desk.prove(0, 0));
        desk.judge(0, 2, true);
        due.answers("22: an approved one counts", 3, () -> desk.prove(0, 1));
        desk.judge(0, 0, false);
        due.answers("22: a refused one does not", 3, () -> desk.prove(0, 3));
        due.answers("22: a refused one is made again", 4, () -> desk.prove(0, 0));
        proofIs("22", desk, 0, 0, ProofSheet.MADE);
        due.answers("22: another page", 1, () -> desk.prove(1, 0));
    }

    private static void proveRefuses() {
        ProofSheet desk = Due.deskWith(1, 3);
        int[][] noPage = {{-1, 0}, {1, 0}, {1, 4}, {-1, -1}, {Integer.MAX_VALUE, 9}, {Integer.MIN_VALUE, 0}};
        for (int[] w : noPage) {
            due.refuses("22: prove(" + w[0] + ", " + w[1] + ")", Due.INDEX, () -> desk.prove(w[0], w[1]));
        }
        int[] noColor = {-1, 4, 32, Integer.MAX_VALUE, Integer.MIN_VALUE};
        for (int color : noColor) {
            due.refuses("22: prove(0, " + color + ")", Due.ARGUMENT, () -> desk.prove(0, color));
        }
        due.refuses("22: a colour that it does not use", Due.STATE, () -> desk.prove(0, 2));
        desk.prove(0, 0);
        due.refuses("22: made already", Due.STATE, () -> desk.prove(0, 0));
        desk.judge(0, 0, true);
        due.refuses("22: approved already", Due.STATE, () -> desk.prove(0, 0));
        proofIs("22: nothing is changed", desk, 0, 0, ProofSheet.APPROVED);
        proofIs("22: nothing is changed", desk, 0, 2, -1);
    }

    private static void proveNeedsFonts() {
        ProofSheet desk = new ProofSheet();
        desk.insert(0, 128 + 1, 1);
        due.refuses("22: no font has a right", Due.STATE, () -> desk.prove(0, 0));
        desk.setRight(0, 0, 9);
        due.refuses("22: one has none", Due.STATE, () -> desk.prove(0, 0));
        desk.setRight(7, 1, 1);
        due.refuses("22: one has none today", Due.STATE, () -> desk.prove(0, 0));
        desk.pass(1);
        due.answers("22: both have one", 1, () -> desk.prove(0, 0));
        desk.judge(0, 0, false);
        desk.pass(1);
        due.refuses("22: one has none any more", Due.STATE, () -> desk.prove(0, 0));
        proofIs("22: a refused proof becomes none too", desk, 0, 0, ProofSheet.NONE);
    }

    private static void judge() {
        ProofSheet desk = Due.deskWith(2, 3);
        desk.prove(0, 0);
        desk.prove(0, 1);
        due.answers("23: approved, the other one made", 0, () -> Due.bit(desk.judge(0, 0, true)));
        proofIs("23", desk, 0, 0, ProofSheet.APPROVED);
        due.answers("23: refused", 0, () -> Due.bit(desk.judge(0, 1, false)));
        proofIs("23", desk, 0, 1, ProofSheet.REFUSED);
        desk.prove(0, 1);
        due.answers("23: all approved", 1, () -> Due.bit(desk.judge(0, 1, true)));
        proofIs("23: the other page", desk, 1, 0, ProofSheet.NONE);
    }

    private static void judgeRefuses() {
        ProofSheet desk = Due.deskWith(1, 3);
        int[][] noPage = {{-1, 0}, {1, 0}, {1, 4}, {-1, -1}, {Integer.MAX_VALUE, 9}, {Integer.MIN_VALUE, 0}};
        for (int[] w : noPage) {
            due.refuses("23: judge(" + w[0] + ", " + w[1] + ")", Due.INDEX,
                    () -> Due.bit(desk.judge(w[0], w[1], true)));
        }
        int[] noColor = {-1, 4, 32, Integer.MAX_VALUE, Integer.MIN_VALUE};
        for (int color : noColor) {
            due.refuses("23: judge(0, " + color + ")", Due.ARGUMENT, () -> Due.bit(desk.judge(0, color, false)));
        }
        due.refuses("23: none", Due.STATE, () -> Due.bit(desk.judge(0, 0, true)));
        due.refuses("23: a colour that it does not use", Due.STATE, () -> Due.bit(desk.judge(0, 2, true)));
        Due.approve(desk, 0, 0);
        due.refuses("23: approved", Due.STATE, () -> Due.bit(desk.judge(0, 0, false)));
        desk.prove(0, 1);
        desk.judge(0, 1, false);
        due.refuses("23: refused", Due.STATE, () -> Due.bit(desk.judge(0, 1, true)));
        proofIs("23: nothing is changed", desk, 0, 0, ProofSheet.APPROVED);
        proofIs("23: nothing is changed", desk, 0, 1, ProofSheet.REFUSED);
    }

    private static void judgeNeedsAllColors() {
        ProofSheet desk = Due.deskWith(1, 15);
        for (int color = 3; color >= 0; color--) {
            int one = color;
            desk.prove(0, one);
            due.answers("23: finished with colour " + one, Due.bit(one == 0),
                    () -> Due.bit(desk.judge(0, one, true)));
        }
        ProofSheet one = Due.deskWith(1, 8);
        one.prove(0, 3);
        due.answers("23: the only colour is refused", 0, () -> Due.bit(one.judge(0, 3, false)));
    }

    private static void proof() {
        ProofSheet desk = Due.deskWith(2, 10);
        int[][] noPage = {{-1, 0}, {2, 0}, {2, 4}, {-1, -1}, {Integer.MAX_VALUE, 9}, {Integer.MIN_VALUE, 0}};
        for (int[] w : noPage) {
            due.refuses("24: proof(" + w[0] + ", " + w[1] + ")", Due.INDEX, () -> desk.proof(w[0], w[1]));
        }
        int[] noColor = {-1, 4, 32, Integer.MAX_VALUE, Integer.MIN_VALUE};
        for (int color : noColor) {
            due.refuses("24: proof(0, " + color + ")", Due.ARGUMENT, () -> desk.proof(0, color));
        }
        proofIs("24: not used", desk, 0, 0, -1);
        proofIs("24: not used", desk, 0, 2, -1);
        proofIs("24: at first", desk, 0, 1, ProofSheet.NONE);
        desk.prove(0, 1);
        proofIs("24: made", desk, 0, 1, ProofSheet.MADE);
        desk.judge(0, 1, false);
        proofIs("24: refused", desk, 0, 1, ProofSheet.REFUSED);
        Due.approve(desk, 0, 1);
        proofIs("24: approved", desk, 0, 1, ProofSheet.APPROVED);
        proofIs("24: another colour", desk, 0, 3, ProofSheet.NONE);
        proofIs("24: another page", desk, 1, 1, ProofSheet.NONE);
        desk.setFolds(3, 9);
        desk.insert(0, 0, 0);
        proofIs("24: at its new place, with other folds", desk, 1, 1, ProofSheet.APPROVED);
    }

    private static void isReady() {
        ProofSheet desk = new ProofSheet();
        due.refuses("25: without sheets", Due.INDEX, () -> Due.bit(desk.isReady(0)));
        for (int place = 0; place < 6; place++) {
            desk.insert(place, 0, place == 3 ? 0 : 1);
        }
        int[] noSheet = {-1, 2, Integer.MAX_VALUE, Integer.MIN_VALUE};
        for (int sheet : noSheet) {
            due.refuses("25: isReady(" + sheet + ")", Due.INDEX, () -> Due.bit(desk.isReady(sheet)));
        }
        Due.approveAll(desk, 0, 1);
        due.answers("25: one page is not finished", 0, () -> Due.bit(desk.isReady(0)));
        desk.prove(2, 0);
        due.answers("25: its proof is made", 0, () -> Due.bit(desk.isReady(0)));
        desk.judge(2, 0, true);
        due.answers("25: the page without colours is finished", 1, () -> Due.bit(desk.isReady(0)));
        Due.approveAll(desk, 5, 5);
        due.answers("25: one page of the second sheet", 0, () -> Due.bit(desk.isReady(1)));
        Due.approveAll(desk, 4, 4);
        due.answers("25: a sheet with leaves without pages", 1, () -> Due.bit(desk.isReady(1)));
        desk.insert(0, 0, 1);
        due.answers("25: a new page", 0, () -> Due.bit(desk.isReady(0)));
        due.answers("25: a page comes from the first sheet", 1, () -> Due.bit(desk.isReady(1)));
        desk.move(0, 6);
        due.answers("25: it is moved away", 1, () -> Due.bit(desk.isReady(0)));
        due.answers("25: to this sheet", 0, () -> Due.bit(desk.isReady(1)));
        desk.setFolds(2, 0);
        due.answers("25: all on one sheet", 0, () -> Due.bit(desk.isReady(0)));
        desk.remove(6);
        due.answers("25: it is removed", 1, () -> Due.bit(desk.isReady(0)));
        desk.edit(3, 0, 0);
        due.answers("25: edited, without colours", 1, () -> Due.bit(desk.isReady(0)));
        desk.edit(5, 0, 1);
        due.answers("25: edited, with a colour", 0, () -> Due.bit(desk.isReady(0)));
    }

    private static void isReadyByFonts() {
        ProofSheet desk = new ProofSheet();
        desk.insert(0, 16, 0);
        due.answers("25: a font without a right", 0, () -> Due.bit(desk.isReady(0)));
        desk.setRight(4, 2, 3);
        due.answers("25: a right that has not begun", 0, () -> Due.bit(desk.isReady(0)));
        desk.pass(2);
        due.answers("25: a right", 1, () -> Due.bit(desk.isReady(0)));
        desk.pass(2);
        due.answers("25: a right that has ended", 0, () -> Due.bit(desk.isReady(0)));
    }
}
