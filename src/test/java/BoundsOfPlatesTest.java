/** The boundary cases of the promises 26 to 29: plates and runs. */
public final class BoundsOfPlatesTest {
    private static final int[] NO_SHEETS_OF_THREE = {-1, 3, 16, Bench.LEAST, Bench.MOST};

    public static void main(String[] args) {
        Cases.run(BoundsOfPlatesTest.class);
    }

    /** A sheet with one page, of the colour 0, which is on the back; its plate is made and used for these copies. */
    private static Bench onePage(int... copies) {
        Bench desk = Bench.withPages(1, 0, 1);
        desk.approve(0, 0);
        desk.does(d -> d.makePlates(0));
        for (int many : copies) {
            desk.does(d -> d.print(0, many));
        }
        return desk;
    }

    // ---- Promise 26: makePlates

    static void p26_makePlates_0To8() {
        for (int colors = 0; colors < 16; colors++) {
            Bench desk = Bench.withPages(2, 0, colors);
            int many = 2 * Integer.bitCount(colors);
            desk.approveAll(0, 1);
            desk.is(many, d -> d.makePlates(0));
            desk.is(0, d -> d.makePlates(0));
            desk.is(many, d -> d.plates());
        }
    }

    static void p26_makePlates_noSuchSheet() {
        Bench desk = Bench.atWork();
        for (int sheet : NO_SHEETS_OF_THREE) {
            desk.refused(Bench.INDEX, d -> d.makePlates(sheet));
        }
    }

    static void p26_makePlates_noSheetAtAll() {
        Bench desk = new Bench();
        desk.refused(Bench.INDEX, d -> d.makePlates(0));
    }

    static void p26_makePlates_theLastSheetWithOnePage() {
        Bench desk = Bench.atWork();
        desk.is(1, d -> d.makePlates(2));
        desk.is(0, d -> d.wear(2, 1, 0));
        desk.is(-1, d -> d.wear(2, 0, 0));
    }

    static void p26_makePlates_theSheet15() {
        Bench desk = Bench.withPages(64, 0, 0);
        desk.does(d -> d.edit(63, 0, 8));
        desk.approve(63, 3);
        desk.is(1, d -> d.makePlates(15));
        desk.is(0, d -> d.wear(15, 1, 3));
        desk.refused(Bench.INDEX, d -> d.makePlates(16));
    }

    static void p26_makePlates_aSheetThatIsNotReady() {
        Bench desk = Bench.atWork();
        desk.refused(Bench.STATE, d -> d.makePlates(1));
    }

    static void p26_makePlates_aSheetThatLacksOneApproval() {
        Bench desk = Bench.withPages(4, 0, 1);
        desk.approveAll(0, 2);
        desk.refused(Bench.STATE, d -> d.makePlates(0));
        desk.does(d -> d.prove(3, 0));
        desk.refused(Bench.STATE, d -> d.makePlates(0));
        desk.does(d -> d.judge(3, 0, true));
        desk.is(2, d -> d.makePlates(0));
    }

    static void p26_makePlates_onTheLastDayOfARightAndOnTheNext() {
        Bench desk = Bench.withPages(1, 1, 1);
        desk.does(d -> d.setRight(0, 0, 1));
        desk.approve(0, 0);
        desk.does(d -> d.pass(1));
        desk.is(1, d -> d.makePlates(0));
        desk.does(d -> d.pass(1));
        desk.refused(Bench.STATE, d -> d.makePlates(0));
    }

    static void p26_makePlates_aPlateUsedFor999And1000Copies() {
        Bench desk = onePage(500, 499);
        desk.is(0, d -> d.makePlates(0));
        desk.is(999, d -> d.wear(0, 1, 0));
        desk.does(d -> d.print(0, 1));
        desk.is(1, d -> d.makePlates(0));
        desk.is(0, d -> d.wear(0, 1, 0));
        desk.is(2, d -> d.plates());
    }

    static void p26_makePlates_onlyThoseThatAreNotGood() {
        Bench desk = Bench.withPages(4, 0, 3);
        desk.approveAll(0, 3);
        desk.is(4, d -> d.makePlates(0));
        desk.does(d -> d.print(0, 10));
        desk.does(d -> d.edit(1, 0, 1));
        desk.approve(1, 0);
        desk.is(2, d -> d.makePlates(0));
        desk.is(0, d -> d.wear(0, 0, 0));
        desk.is(0, d -> d.wear(0, 0, 1));
        desk.is(10, d -> d.wear(0, 1, 0));
        desk.is(10, d -> d.wear(0, 1, 1));
    }

    /** The plate of the colour 0 would show fewer pages; then it would show the old ones and one more. */
    static void p26_makePlates_onePageFewerAndOneMore() {
        Bench desk = Bench.withPages(8, 0, 0);
        desk.does(d -> d.edit(1, 0, 1));
        desk.does(d -> d.edit(2, 0, 1));
        desk.approve(1, 0);
        desk.approve(2, 0);
        desk.is(1, d -> d.makePlates(0));
        desk.does(d -> d.remove(2));
        desk.is(-1, d -> d.wear(0, 0, 0));
        desk.is(1, d -> d.makePlates(0));
        desk.does(d -> d.insert(2, 0, 1));
        desk.approve(2, 0);
        desk.is(-1, d -> d.wear(0, 0, 0));
        desk.is(1, d -> d.makePlates(0));
    }

    static void p26_makePlates_inPlaceOfAnOldOneTheOldOneIsGone() {
        Bench desk = onePage(3);
        desk.does(d -> d.insert(0, 0, 1));
        desk.approve(0, 0);
        desk.is(2, d -> d.makePlates(0));
        desk.does(d -> d.remove(0));
        desk.is(-1, d -> d.wear(0, 1, 0));
        desk.is(1, d -> d.makePlates(0));
    }

    // ---- Promise 27: wear

    static void p27_wear_noSuchSheet() {
        Bench desk = Bench.atWork();
        for (int sheet : NO_SHEETS_OF_THREE) {
            desk.refused(Bench.INDEX, d -> d.wear(sheet, 0, 0));
        }
        Bench empty = new Bench();
        empty.refused(Bench.INDEX, d -> d.wear(0, 0, 0));
    }

    static void p27_wear_side0And1() {
        Bench desk = Bench.withPages(4, 0, 1);
        desk.approveAll(0, 3);
        desk.does(d -> d.makePlates(0));
        desk.does(d -> d.print(0, 2));
        desk.is(2, d -> d.wear(0, 0, 0));
        desk.is(2, d -> d.wear(0, 1, 0));
    }

    static void p27_wear_sideBelow0AndAbove1IsRefused() {
        Bench desk = Bench.atWork();
        for (int side : new int[] {-1, 2, Bench.LEAST, Bench.MOST}) {
            desk.refused(Bench.ARGUMENT, d -> d.wear(0, side, 0));
            desk.refused(Bench.ARGUMENT, d -> d.wear(1, side, 3));
        }
    }

    static void p27_wear_color0And3() {
        Bench desk = Bench.withPages(1, 0, 9);
        desk.approveAll(0, 0);
        desk.does(d -> d.makePlates(0));
        desk.is(0, d -> d.wear(0, 1, 0));
        desk.is(-1, d -> d.wear(0, 1, 1));
        desk.is(-1, d -> d.wear(0, 1, 2));
        desk.is(0, d -> d.wear(0, 1, 3));
    }

    static void p27_wear_colorBelow0AndAbove3IsRefused() {
        Bench desk = Bench.atWork();
        for (int color : new int[] {-1, 4, 32, Bench.LEAST, Bench.MOST}) {
            desk.refused(Bench.ARGUMENT, d -> d.wear(0, 0, color));
            desk.refused(Bench.ARGUMENT, d -> d.wear(2, 1, color));
        }
    }

    static void p27_wear_0And1And999And1000() {
        Bench desk = onePage();
        desk.is(0, d -> d.wear(0, 1, 0));
        desk.does(d -> d.print(0, 1));
        desk.is(1, d -> d.wear(0, 1, 0));
        desk.does(d -> d.print(0, 498));
        desk.does(d -> d.print(0, 500));
        desk.is(999, d -> d.wear(0, 1, 0));
        desk.does(d -> d.print(0, 1));
        desk.is(-1, d -> d.wear(0, 1, 0));
    }

    static void p27_wear_aPlateThatIsNotMade() {
        Bench desk = Bench.withPages(1, 0, 1);
        desk.is(-1, d -> d.wear(0, 1, 0));
        desk.approve(0, 0);
        desk.is(-1, d -> d.wear(0, 1, 0));
        desk.is(-1, d -> d.wear(0, 0, 0));
    }

    static void p27_wear_aPlateThatIsNotNeededAnyMore() {
        Bench desk = onePage(5);
        desk.does(d -> d.edit(0, 0, 0));
        desk.is(-1, d -> d.wear(0, 1, 0));
    }

    static void p27_wear_aGoodPlateOfASheetThatIsNotReady() {
        Bench desk = onePage(5);
        desk.does(d -> d.insert(1, 0, 1));
        desk.is(false, d -> d.isReady(0));
        desk.is(5, d -> d.wear(0, 1, 0));
    }

    static void p27_wear_aPlateOfPagesWhoseProofsAreNone() {
        Bench desk = Bench.withPages(1, 1, 1);
        desk.does(d -> d.setRight(0, 0, 0));
        desk.approve(0, 0);
        desk.does(d -> d.makePlates(0));
        desk.does(d -> d.print(0, 5));
        desk.does(d -> d.pass(1));
        desk.is(ProofSheet.NONE, d -> d.proof(0, 0));
        desk.is(5, d -> d.wear(0, 1, 0));
    }

    static void p27_wear_sheetIsLookedAtAheadOfSideAndColor() {
        Bench desk = Bench.atWork();
        desk.refused(Bench.INDEX, d -> d.wear(3, 2, 0));
        desk.refused(Bench.INDEX, d -> d.wear(-1, 0, 4));
        desk.refused(Bench.INDEX, d -> d.wear(Bench.MOST, -1, -1));
    }

    // ---- Promise 28: print, "copies: 1 to 500"

    static void p28_print_1And500Copies() {
        Bench desk = onePage();
        desk.is(1, d -> d.print(0, 1));
        desk.is(1, d -> d.wear(0, 1, 0));
        desk.is(501, d -> d.print(0, 500));
        desk.is(501, d -> d.wear(0, 1, 0));
    }

    static void p28_print_below1AndAbove500IsRefused() {
        Bench desk = Bench.atWork();
        for (int copies : new int[] {0, -1, 501, Bench.LEAST, Bench.MOST}) {
            desk.refused(Bench.ARGUMENT, d -> d.print(0, copies));
        }
    }

    static void p28_print_noSuchSheet() {
        Bench desk = Bench.atWork();
        for (int sheet : NO_SHEETS_OF_THREE) {
            desk.refused(Bench.INDEX, d -> d.print(sheet, 1));
        }
        Bench empty = new Bench();
        empty.refused(Bench.INDEX, d -> d.print(0, 1));
    }

    static void p28_print_aSheetThatIsNotReady() {
        Bench desk = Bench.atWork();
        desk.refused(Bench.STATE, d -> d.print(1, 1));
        desk.does(d -> d.edit(0, 0, 1));
        desk.refused(Bench.STATE, d -> d.print(0, 1));
    }

    /** Its right has ended, so the proofs are none, but the plate shows what it showed. */
    static void p28_print_aSheetThatIsNotReadyWithGoodPlates() {
        Bench desk = Bench.withPages(1, 1, 1);
        desk.does(d -> d.setRight(0, 0, 1));
        desk.approve(0, 0);
        desk.does(d -> d.makePlates(0));
        desk.does(d -> d.pass(1));
        desk.is(5, d -> d.print(0, 5));
        desk.does(d -> d.pass(1));
        desk.is(5, d -> d.wear(0, 1, 0));
        desk.refused(Bench.STATE, d -> d.print(0, 1));
    }

    static void p28_print_aSheetThatIsNotReadyByAPageWithoutColors() {
        Bench desk = onePage(5);
        desk.does(d -> d.insert(1, 1, 0));
        desk.refused(Bench.STATE, d -> d.print(0, 1));
        desk.does(d -> d.setRight(0, 0, 0));
        desk.is(6, d -> d.print(0, 1));
    }

    static void p28_print_aReadySheetWithoutPlates() {
        Bench desk = Bench.atWork();
        desk.is(true, d -> d.isReady(2));
        desk.refused(Bench.STATE, d -> d.print(2, 1));
        desk.does(d -> d.makePlates(2));
        desk.is(8, d -> d.print(2, 1));
    }

    /** The plate that lacks is the last one of eight, the first one, and one between. */
    static void p28_print_oneOfEightPlatesIsNotGood() {
        int[][] placeColors = {{0, 8}, {1, 1}, {1, 4}};
        for (int[] changed : placeColors) {
            Bench desk = Bench.withPages(3, 0, 0);
            desk.does(d -> d.edit(0, 0, 15));
            desk.does(d -> d.edit(2, 0, 15));
            desk.approveAll(0, 2);
            desk.is(8, d -> d.makePlates(0));
            desk.does(d -> d.print(0, 40));
            desk.does(d -> d.insert(3, 0, 0));
            int place = changed[0] == 0 ? 3 : 1;
            desk.does(d -> d.edit(place, 0, changed[1]));
            desk.approveAll(place, place);
            desk.refused(Bench.STATE, d -> d.print(0, 1));
            desk.is(1, d -> d.makePlates(0));
            desk.is(41, d -> d.print(0, 1));
        }
    }

    static void p28_print_to1000CopiesAndTo1001() {
        Bench desk = onePage(500, 499);
        desk.refused(Bench.STATE, d -> d.print(0, 2));
        desk.is(1000, d -> d.print(0, 1));
        desk.refused(Bench.STATE, d -> d.print(0, 1));
        desk = onePage(500);
        desk.is(1000, d -> d.print(0, 500));
        desk.refused(Bench.STATE, d -> d.print(0, 500));
        desk = onePage(500, 1);
        desk.refused(Bench.STATE, d -> d.print(0, 500));
        desk.is(1000, d -> d.print(0, 499));
    }

    static void p28_print_onePlateOfTwoWouldBeUsedForTooMany() {
        for (int fresh = 0; fresh < 2; fresh++) {
            int place = fresh;
            Bench desk = Bench.withPages(2, 0, 1);
            desk.approveAll(0, 1);
            desk.does(d -> d.makePlates(0));
            desk.does(d -> d.print(0, 500));
            desk.does(d -> d.print(0, 400));
            desk.does(d -> d.edit(place, 0, 1));
            desk.approve(place, 0);
            desk.is(1, d -> d.makePlates(0));
            desk.refused(Bench.STATE, d -> d.print(0, 101));
            desk.is(0, d -> d.wear(0, 1 - place, 0));
            desk.is(900, d -> d.wear(0, place, 0));
            desk.is(1000, d -> d.print(0, 100));
            desk.is(100, d -> d.wear(0, 1 - place, 0));
            desk.is(-1, d -> d.wear(0, place, 0));
        }
    }

    static void p28_print_aWornPlateThatIsNotNeeded() {
        Bench desk = onePage(500, 500);
        desk.does(d -> d.edit(0, 0, 0));
        desk.is(1500, d -> d.print(0, 500));
    }

    static void p28_print_aSheetThatNeedsNoPlates() {
        Bench desk = Bench.withPages(1, 0, 0);
        desk.is(500, d -> d.print(0, 500));
        desk.is(1000, d -> d.print(0, 500));
        desk.is(1500, d -> d.print(0, 500));
    }

    static void p28_print_copiesOfAllSheets() {
        Bench desk = Bench.withPages(64, 0, 0);
        desk.is(1, d -> d.print(0, 1));
        desk.is(501, d -> d.print(15, 500));
        desk.does(d -> d.setFolds(4, 0));
        desk.is(503, d -> d.print(1, 2));
        desk.refused(Bench.INDEX, d -> d.print(2, 1));
    }

    static void p28_print_sheetIsLookedAtAheadOfCopies() {
        Bench desk = Bench.atWork();
        desk.refused(Bench.INDEX, d -> d.print(3, 0));
        desk.refused(Bench.INDEX, d -> d.print(-1, 501));
    }

    static void p28_print_copiesAreLookedAtAheadOfThePlatesAndTheProofs() {
        Bench desk = Bench.atWork();
        desk.refused(Bench.ARGUMENT, d -> d.print(1, 0));
        desk.refused(Bench.ARGUMENT, d -> d.print(1, 501));
        desk.refused(Bench.ARGUMENT, d -> d.print(2, 0));
        Bench worn = onePage(500, 500);
        worn.refused(Bench.ARGUMENT, d -> d.print(0, 501));
        worn.refused(Bench.ARGUMENT, d -> d.print(0, Bench.MOST));
    }

    // ---- Promise 29: plates

    static void p29_plates_0AtFirstAndBehindRefusedCalls() {
        Bench desk = new Bench();
        desk.is(0, d -> d.plates());
        desk.refused(Bench.INDEX, d -> d.makePlates(0));
        desk.does(d -> d.insert(0, 0, 1));
        desk.refused(Bench.STATE, d -> d.makePlates(0));
        desk.is(0, d -> d.plates());
    }

    static void p29_plates_thoseMadeAnewCountOnceMore() {
        Bench desk = onePage(500, 500);
        desk.is(1, d -> d.plates());
        desk.does(d -> d.makePlates(0));
        desk.is(2, d -> d.plates());
        desk.does(d -> d.makePlates(0));
        desk.is(2, d -> d.plates());
    }

    static void p29_plates_thoseOfPagesThatAreGoneCountStill() {
        Bench desk = onePage();
        desk.does(d -> d.remove(0));
        desk.is(1, d -> d.plates());
    }

    /** Two pages a sheet with all colours, one on each side, on as many sheets as there can be. */
    static void p29_plates_all128OfSixteenSheets() {
        Bench desk = Bench.withPages(64, 0, 0);
        for (int sheet = 0; sheet < 16; sheet++) {
            for (int page = 0; page < 2; page++) {
                int place = sheet * 4 + page;
                desk.does(d -> d.edit(place, 0, 15));
                for (int color = 0; color < 4; color++) {
                    desk.approve(place, color);
                }
            }
        }
        for (int sheet = 0; sheet < 16; sheet++) {
            int one = sheet;
            desk.is(8, d -> d.makePlates(one));
        }
        desk.is(128, d -> d.plates());
        for (int sheet = 0; sheet < 16; sheet++) {
            int one = sheet;
            desk.is(one + 1, d -> d.print(one, 1));
            desk.is(1, d -> d.wear(one, 0, 0));
            desk.is(1, d -> d.wear(one, 1, 3));
        }
        desk.is(128, d -> d.plates());
    }
}
