/** Promises 17 to 21: fonts and days. */
public final class FontsTest {
    private static final Due due = new Due();

    public static void main(String[] args) {
        setRight();
        setRightRefuses();
        setRightSendsBack();
        setRightFreesNoProof();
        withdraw();
        withdrawSendsBack();
        pass();
        passEndsRights();
        passTakesDayByDay();
        passCountsSheets();
        sixteenSheetsAreSentBack();
        today();
        mayUse();
        due.end();
    }

    private static void usable(String what, ProofSheet desk, int font, boolean want) {
        due.answers(what + ": mayUse(" + font + ")", Due.bit(want), () -> Due.bit(desk.mayUse(font)));
    }

    private static void proofIs(String what, ProofSheet desk, int place, int color, int want) {
        due.answers(what + ": proof(" + place + ", " + color + ")", want, () -> desk.proof(place, color));
    }

    private static void setRight() {
        ProofSheet desk = new ProofSheet();
        due.answers("17: a right from today", 0, () -> desk.setRight(0, 0, 0));
        due.answers("17: a right from tomorrow", 0, () -> desk.setRight(1, 1, 9999));
        due.answers("17: the last day alone", 0, () -> desk.setRight(7, 9999, 9999));
        usable("17: from today", desk, 0, true);
        usable("17: from tomorrow", desk, 1, false);
        desk.pass(1);
        usable("17: to yesterday", desk, 0, false);
        usable("17: from today", desk, 1, true);
        desk.setRight(1, 5, 6);
        usable("17: another right in its place", desk, 1, false);
        desk.setRight(0, 0, 1);
        usable("17: a right once more", desk, 0, true);
        usable("17: another font", desk, 2, false);
    }

    private static void setRightRefuses() {
        ProofSheet desk = new ProofSheet();
        desk.setRight(3, 0, 9);
        int[][] wrong = {{-1, 0, 0}, {8, 0, 0}, {3, -1, 0}, {3, 10000, 10000}, {3, 5, 4}, {3, 0, 10000}, {3, 0, -1},
            {3, 1, 0}, {Integer.MAX_VALUE, 0, 0}, {3, Integer.MIN_VALUE, 9}, {3, 9, Integer.MAX_VALUE}};
        for (int[] w : wrong) {
            due.refuses("17: setRight(" + w[0] + ", " + w[1] + ", " + w[2] + ")", Due.ARGUMENT,
                    () -> desk.setRight(w[0], w[1], w[2]));
        }
        usable("17: nothing is changed", desk, 3, true);
        desk.pass(9);
        usable("17: nothing is changed on its last day", desk, 3, true);
    }

    /** Four pages a sheet; the font 0 on the pages 0 and 4, the font 1 on 1 and 8. */
    private static ProofSheet threeReadySheets() {
        ProofSheet desk = new ProofSheet();
        int[] fonts = {1, 2, 0, 0, 1, 0, 0, 0, 2};
        for (int place = 0; place < fonts.length; place++) {
            desk.insert(place, fonts[place], 1);
        }
        desk.setRight(0, 0, 20);
        desk.setRight(1, 0, 30);
        Due.approveAll(desk, 0, 8);
        return desk;
    }

    private static void setRightSendsBack() {
        ProofSheet desk = threeReadySheets();
        due.answers("17: the right ends on another day", 0, () -> desk.setRight(0, 0, 15));
        proofIs("17: that leaves the proof", desk, 0, 0, ProofSheet.APPROVED);
        due.answers("17: the right is not for today", 2, () -> desk.setRight(0, 1, 15));
        proofIs("17: the proof is lost", desk, 0, 0, ProofSheet.NONE);
        proofIs("17: the proof is lost", desk, 4, 0, ProofSheet.NONE);
        proofIs("17: without the font", desk, 1, 0, ProofSheet.APPROVED);
        due.answers("17: a sheet that was not ready is not sent back", 1, () -> desk.setRight(1, 9, 9));
        due.answers("17: none is ready now", 0, () -> desk.setRight(1, 10, 10));
    }

    private static void setRightFreesNoProof() {
        ProofSheet desk = Due.deskWith(0, 0);
        desk.insert(0, 1, 0);
        due.answers("17: a page without colours, a font without a right", 0, () -> Due.bit(desk.isReady(0)));
        due.answers("17: a sheet that becomes ready", 0, () -> desk.setRight(0, 0, 0));
        due.answers("17: is not sent back", 1, () -> Due.bit(desk.isReady(0)));
        due.answers("17: until its right is another", 1, () -> desk.setRight(0, 7, 7));
    }

    private static void withdraw() {
        ProofSheet desk = new ProofSheet();
        int[] wrong = {-1, 8, Integer.MAX_VALUE, Integer.MIN_VALUE};
        for (int font : wrong) {
            due.refuses("18: withdraw(" + font + ")", Due.ARGUMENT, () -> desk.withdraw(font));
        }
        due.refuses("18: no right yet", Due.STATE, () -> desk.withdraw(0));
        desk.setRight(0, 0, 9);
        desk.setRight(1, 0, 9);
        due.answers("18: a right", 0, () -> desk.withdraw(0));
        usable("18: withdrawn", desk, 0, false);
        usable("18: the other one", desk, 1, true);
        due.refuses("18: withdrawn already", Due.STATE, () -> desk.withdraw(0));
        desk.setRight(2, 5, 9);
        due.answers("18: a right that has not begun", 0, () -> desk.withdraw(2));
        desk.pass(5);
        usable("18: it does not begin", desk, 2, false);
        desk.pass(5);
        due.answers("18: a right that has ended", 0, () -> desk.withdraw(1));
        due.refuses("18: it is gone then", Due.STATE, () -> desk.withdraw(1));
    }

    private static void withdrawSendsBack() {
        ProofSheet desk = threeReadySheets();
        desk.prove(desk.insert(9, 3, 3) - 1, 0);
        due.answers("18: withdraw(0)", 2, () -> desk.withdraw(0));
        proofIs("18: approved", desk, 0, 0, ProofSheet.NONE);
        proofIs("18: only made", desk, 9, 0, ProofSheet.NONE);
        proofIs("18: without the font", desk, 8, 0, ProofSheet.APPROVED);
        due.answers("18: a right comes again", 0, () -> desk.setRight(0, 0, 20));
        proofIs("18: the proof does not", desk, 0, 0, ProofSheet.NONE);
        due.answers("18: no sheet with font 1 was ready", 0, () -> desk.withdraw(1));
        proofIs("18: its proofs are lost too", desk, 8, 0, ProofSheet.NONE);
        proofIs("18: without fonts", desk, 2, 0, ProofSheet.APPROVED);
    }

    private static void pass() {
        ProofSheet desk = new ProofSheet();
        int[] wrong = {0, -1, 101, Integer.MAX_VALUE, Integer.MIN_VALUE};
        for (int days : wrong) {
            due.refuses("19: pass(" + days + ")", Due.ARGUMENT, () -> desk.pass(days));
        }
        due.answers("19: nothing is changed", 0, () -> desk.today());
        due.answers("19: pass(1)", 0, () -> desk.pass(1));
        due.answers("19: pass(100)", 0, () -> desk.pass(100));
        due.answers("19: today()", 101, () -> desk.today());
    }

    private static void passEndsRights() {
        ProofSheet desk = threeReadySheets();
        due.answers("19: to the last day of the right", 0, () -> desk.pass(20));
        proofIs("19: on the last day", desk, 0, 0, ProofSheet.APPROVED);
        due.answers("19: ready on the last day", 1, () -> Due.bit(desk.isReady(0)));
        due.answers("19: behind the last day", 2, () -> desk.pass(1));
        proofIs("19: behind the last day", desk, 0, 0, ProofSheet.NONE);
        proofIs("19: the other font", desk, 1, 0, ProofSheet.APPROVED);
        due.answers("19: the third sheet", 1, () -> desk.pass(100));
        proofIs("19: the third sheet", desk, 8, 0, ProofSheet.NONE);
        proofIs("19: without fonts", desk, 5, 0, ProofSheet.APPROVED);
    }

    /** A right that begins and ends while days pass cannot be used on the last one. */
    private static void passTakesDayByDay() {
        ProofSheet desk = new ProofSheet();
        desk.setRight(0, 3, 4);
        desk.insert(0, 1, 0);
        due.answers("19: past the right", 0, () -> desk.pass(10));
        usable("19: past the right", desk, 0, false);
        desk.setRight(0, 11, 30);
        due.answers("19: not usable today", 0, () -> Due.bit(desk.isReady(0)));
        due.answers("19: into the right", 0, () -> desk.pass(1));
        due.answers("19: ready by the day", 1, () -> Due.bit(desk.isReady(0)));
        due.answers("19: out of the right", 1, () -> desk.pass(20));
    }

    private static void passCountsSheets() {
        ProofSheet desk = threeReadySheets();
        due.answers("19: both fonts end on the way, on three sheets", 3, () -> desk.pass(50));
        due.answers("19: once", 0, () -> desk.pass(50));
        for (int sheet = 0; sheet < 3; sheet++) {
            int one = sheet;
            due.answers("19: isReady(" + one + ")", 0, () -> Due.bit(desk.isReady(one)));
        }
    }

    private static void sixteenSheetsAreSentBack() {
        ProofSheet desk = new ProofSheet();
        for (int place = 0; place < 64; place++) {
            desk.insert(place, 64, 0);
        }
        desk.setRight(6, 0, 0);
        due.answers("19: all sheets of 64 pages", 16, () -> desk.pass(1));
        desk.setRight(6, 0, 9);
        due.answers("18: all sheets of 64 pages", 16, () -> desk.withdraw(6));
        desk.setRight(6, 0, 9);
        due.answers("17: all sheets of 64 pages", 16, () -> desk.setRight(6, 9, 9));
    }

    private static void today() {
        ProofSheet desk = new ProofSheet();
        due.answers("20: at first", 0, () -> desk.today());
        for (int many = 1; many <= 110; many++) {
            int want = many * 100;
            desk.pass(100);
            due.answers("20: today()", want, () -> desk.today());
        }
    }

    private static void mayUse() {
        ProofSheet desk = new ProofSheet();
        int[] wrong = {-1, 8, Integer.MAX_VALUE, Integer.MIN_VALUE};
        for (int font : wrong) {
            due.refuses("21: mayUse(" + font + ")", Due.ARGUMENT, () -> Due.bit(desk.mayUse(font)));
        }
        for (int font = 0; font < 8; font++) {
            desk.setRight(font, font, 2 * font);
        }
        for (int day = 0; day < 20; day++) {
            for (int font = 0; font < 8; font++) {
                usable("21: day " + day, desk, font, font <= day && day <= 2 * font);
            }
            desk.pass(1);
        }
    }
}
