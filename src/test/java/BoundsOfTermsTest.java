/** The boundary cases that the document names in 'The public face' and in 'Terms', each with its sentence. */
public final class BoundsOfTermsTest {
    private static final int R = ProofSheet.RIGHT;
    private static final int L = ProofSheet.LEFT;
    private static final int B = ProofSheet.BOTTOM;
    private static final int T = ProofSheet.TOP;

    public static void main(String[] args) {
        Cases.run(BoundsOfTermsTest.class);
    }

    // ---- "An object is used for at most 512 calls after it has been made"

    static void terms_object_theCall512AnswersStill() {
        Bench desk = Bench.withPages(1, 0, 0);
        for (int edition = 2; edition <= 511; edition++) {
            desk.is(edition, d -> d.edit(0, 0, 0));
        }
        desk.is(511, d -> d.edition(0));
    }

    static void terms_object_theCall512IsRefusedAsAnyOther() {
        Bench desk = new Bench();
        for (int call = 1; call <= 511; call++) {
            desk.is(0, d -> d.pages());
        }
        desk.refused(Bench.INDEX, d -> d.remove(0));
    }

    static void terms_object_mostDaysThatCanPass() {
        Bench desk = new Bench();
        for (int call = 1; call <= 511; call++) {
            desk.is(0, d -> d.pass(100));
        }
        desk.is(51100, d -> d.today());
    }

    static void terms_object_mostCopiesThatCanBePrinted() {
        Bench desk = Bench.withPages(1, 0, 0);
        for (int call = 1; call <= 511; call++) {
            desk.is(call * 500, d -> d.print(0, 500));
        }
    }

    // ---- "Days are counted from 0." "Fonts are 0 to 7, colours 0 to 3."

    static void terms_days_theFirstOneIs0() {
        Bench desk = new Bench();
        desk.is(0, d -> d.today());
        desk.is(0, d -> d.setRight(0, 0, 0));
        desk.is(true, d -> d.mayUse(0));
    }

    static void terms_fonts_0And7AreThere() {
        Bench desk = new Bench();
        for (int font : new int[] {0, 7}) {
            desk.is(false, d -> d.mayUse(font));
            desk.is(0, d -> d.setRight(font, 0, 0));
            desk.is(true, d -> d.mayUse(font));
            desk.is(0, d -> d.withdraw(font));
            desk.is(false, d -> d.mayUse(font));
        }
        desk.is(0, d -> d.replace(0, 7));
        desk.is(0, d -> d.replace(7, 0));
    }

    static void terms_fonts_below0AndAbove7AreNot() {
        Bench desk = Bench.atWork();
        for (int font : new int[] {-1, 8, Bench.LEAST, Bench.MOST}) {
            desk.refused(Bench.ARGUMENT, d -> d.mayUse(font));
            desk.refused(Bench.ARGUMENT, d -> d.setRight(font, 0, 0));
            desk.refused(Bench.ARGUMENT, d -> d.withdraw(font));
            desk.refused(Bench.ARGUMENT, d -> d.replace(font, 0));
            desk.refused(Bench.ARGUMENT, d -> d.replace(0, font));
        }
    }

    static void terms_colors_0And3AreThere() {
        Bench desk = Bench.withPages(4, 0, 9);
        for (int color : new int[] {0, 3}) {
            desk.is(ProofSheet.NONE, d -> d.proof(0, color));
            desk.does(d -> d.prove(0, color));
            desk.does(d -> d.judge(0, color, true));
            desk.is(ProofSheet.APPROVED, d -> d.proof(0, color));
            desk.is(-1, d -> d.wear(0, 0, color));
        }
    }

    static void terms_colors_below0AndAbove3AreNot() {
        Bench desk = Bench.atWork();
        for (int color : new int[] {-1, 4, 32, Bench.LEAST, Bench.MOST}) {
            desk.refused(Bench.ARGUMENT, d -> d.proof(4, color));
            desk.refused(Bench.ARGUMENT, d -> d.prove(4, color));
            desk.refused(Bench.ARGUMENT, d -> d.judge(4, color, true));
            desk.refused(Bench.ARGUMENT, d -> d.wear(0, 0, color));
        }
    }

    // ---- "at most 64 are there at a time, and at most 100 are made"

    static void terms_pages_theyCanBe64AtATime() {
        Bench desk = Bench.withPages(63, 0, 0);
        desk.is(64, d -> d.insert(63, 0, 0));
        desk.is(64, d -> d.pages());
        desk.is(1, d -> d.edition(63));
    }

    static void terms_pages_theyCannotBe65AtATime() {
        Bench desk = Bench.withPages(64, 0, 0);
        desk.refused(Bench.STATE, d -> d.insert(0, 0, 0));
        desk.refused(Bench.STATE, d -> d.insert(64, 0, 0));
        desk.is(64, d -> d.pages());
    }

    static void terms_pages_thereIsRoomAgainBehindRemove() {
        Bench desk = Bench.withPages(64, 0, 0);
        desk.is(63, d -> d.remove(63));
        desk.is(64, d -> d.insert(0, 0, 0));
        desk.refused(Bench.STATE, d -> d.insert(0, 0, 0));
    }

    static void terms_pages_100CanBeMade() {
        Bench desk = Bench.withPages(60, 0, 0);
        desk.removePages(60);
        desk.insertPages(39, 0, 0);
        desk.is(40, d -> d.insert(0, 0, 0));
        desk.is(40, d -> d.pages());
    }

    static void terms_pages_101CannotBeMade() {
        Bench desk = Bench.withPages(60, 0, 0);
        desk.removePages(60);
        desk.insertPages(40, 0, 0);
        desk.refused(Bench.STATE, d -> d.insert(0, 0, 0));
        desk.refused(Bench.STATE, d -> d.insert(40, 0, 0));
        desk.is(40, d -> d.pages());
    }

    static void terms_pages_101CannotBeMadeWhenNoneIsLeft() {
        Bench desk = Bench.withPages(50, 0, 0);
        desk.removePages(50);
        desk.insertPages(50, 0, 0);
        desk.removePages(50);
        desk.refused(Bench.STATE, d -> d.insert(0, 0, 0));
        desk.is(0, d -> d.pages());
    }

    static void terms_pages_aRefusedOneIsNotMade() {
        Bench desk = Bench.withPages(64, 0, 0);
        for (int call = 0; call < 50; call++) {
            desk.refused(Bench.STATE, d -> d.insert(0, 0, 0));
        }
        for (int page = 65; page <= 100; page++) {
            desk.does(d -> d.remove(0));
            desk.is(64, d -> d.insert(63, 0, 0));
        }
        desk.does(d -> d.remove(0));
        desk.refused(Bench.STATE, d -> d.insert(63, 0, 0));
    }

    static void terms_pages_movedEditedAndReplacedOnesAreNotMade() {
        Bench desk = Bench.withPages(50, 1, 0);
        for (int call = 0; call < 20; call++) {
            desk.does(d -> d.move(0, 49));
            desk.does(d -> d.edit(0, 1, 0));
            desk.is(50, d -> d.replace(0, 1));
            desk.is(50, d -> d.replace(1, 0));
        }
        desk.removePages(50);
        desk.insertPages(49, 0, 0);
        desk.is(50, d -> d.insert(0, 0, 0));
        desk.refused(Bench.STATE, d -> d.insert(0, 0, 0));
    }

    // ---- "an edition, 1 at first, which each edit makes 1 greater"

    static void terms_edition_is1AtFirst() {
        Bench desk = Bench.withPages(1, 255, 15);
        desk.is(1, d -> d.edition(0));
    }

    static void terms_edition_isOneGreaterBehindAnEditThatChangesNothingElse() {
        Bench desk = Bench.withPages(1, 255, 15);
        desk.is(2, d -> d.edit(0, 255, 15));
        desk.is(2, d -> d.edition(0));
    }

    static void terms_edition_isLeftByAllButEdits() {
        Bench desk = Bench.atWork();
        desk.does(d -> d.move(1, 0));
        desk.does(d -> d.setFolds(2, 0));
        desk.does(d -> d.withdraw(0));
        desk.is(2, d -> d.edition(0));
        desk.is(1, d -> d.edition(1));
    }

    // ---- "Of each colour that it uses a page has a proof, which is none, made, approved or refused."

    static void terms_proofs_noneOfAPageWithoutColors() {
        Bench desk = Bench.withPages(1, 0, 0);
        for (int color = 0; color < 4; color++) {
            int one = color;
            desk.is(-1, d -> d.proof(0, one));
            desk.refused(Bench.STATE, d -> d.prove(0, one));
        }
    }

    static void terms_proofs_fourOfAPageWithAllColors() {
        Bench desk = Bench.withPages(1, 0, 15);
        for (int color = 0; color < 4; color++) {
            int one = color;
            desk.is(ProofSheet.NONE, d -> d.proof(0, one));
            desk.is(one + 1, d -> d.prove(0, one));
        }
    }

    // ---- "folded by the same folds, 1 to 4 of them" "as many leaves as 2 to the power of the number of folds"

    static void terms_sheets_leavesOf1To4Folds() {
        Bench desk = Bench.withPages(64, 0, 0);
        for (int folds = 1; folds <= 4; folds++) {
            int many = folds;
            desk.is(32 >> many, d -> d.setFolds(many, 0));
            desk.is(1 << many, d -> d.rows() * d.columns());
        }
    }

    static void terms_sheets_foldsToOneSideMakeColumnsAlone() {
        Bench desk = new Bench();
        for (int folds = 1; folds <= 4; folds++) {
            int many = folds;
            desk.does(d -> d.setFolds(many, 1));
            desk.is(1, d -> d.rows());
            desk.is(1 << many, d -> d.columns());
        }
    }

    static void terms_sheets_foldsUpAndDownMakeRowsAlone() {
        Bench desk = new Bench();
        int[] kinds = {B, B + 4 * T, B + 4 * T + 16 * T, T + 4 * B + 16 * T + 64 * B};
        for (int folds = 1; folds <= 4; folds++) {
            int many = folds;
            desk.does(d -> d.setFolds(many, kinds[many - 1]));
            desk.is(1 << many, d -> d.rows());
            desk.is(1, d -> d.columns());
        }
    }

    static void terms_sheets_atFirstThereIsOneFoldRight() {
        Bench desk = Bench.withPages(4, 0, 0);
        desk.is(1, d -> d.rows());
        desk.is(2, d -> d.columns());
        desk.is(2, d -> d.pageAt(0, 0, 0, 0));
        desk.is(1, d -> d.pageAt(0, 0, 0, 1));
        desk.is(3, d -> d.pageAt(0, 1, 0, 0));
        desk.is(0, d -> d.pageAt(0, 1, 0, 1));
        desk.is(false, d -> d.isTurned(0));
    }

    // ---- "the sheet number s has the pages at the places from s times twice the leaves on"

    static void terms_sheets_aSheetEndsWhereTheNextOneBegins() {
        for (int folds = 1; folds <= 4; folds++) {
            int many = folds;
            int pagesOfSheet = 2 << folds;
            Bench desk = Bench.withPages(64, 0, 0);
            desk.does(d -> d.setFolds(many, 0));
            int leafOfFirst = desk.ask(d -> d.leafOf(0));
            int leafOfLast = desk.ask(d -> d.leafOf(pagesOfSheet - 1));
            for (int sheet = 0; sheet < 64 / pagesOfSheet; sheet++) {
                int one = sheet;
                int first = sheet * pagesOfSheet;
                int last = first + pagesOfSheet - 1;
                desk.is(first, d -> d.pageAt(one, leafOfFirst / 16, 0, leafOfFirst % 16));
                desk.is(last, d -> d.pageAt(one, leafOfLast / 16, 0, leafOfLast % 16));
                desk.is(leafOfFirst, d -> d.leafOf(first));
                desk.is(leafOfLast, d -> d.leafOf(last));
            }
        }
    }

    // ---- "the last sheet may have leaves without pages" "There are as many sheets as the pages need."

    static void terms_sheets_theLastOneMayHaveOnePage() {
        for (int folds = 1; folds <= 4; folds++) {
            int many = folds;
            int pagesOfSheet = 2 << folds;
            Bench desk = Bench.withPages(pagesOfSheet + 1, 0, 0);
            desk.is(2, d -> d.setFolds(many, 0));
            for (int place = 0; place < pagesOfSheet; place++) {
                int at = place;
                int leaf = desk.ask(d -> d.leafOf(at));
                desk.is(at == 0 ? pagesOfSheet : -1, d -> d.pageAt(1, leaf / 16, 0, leaf % 16));
                desk.is(at == 0 ? pagesOfSheet : -1, d -> d.pageByRule(1, leaf / 16, 0, leaf % 16));
            }
        }
    }

    static void terms_sheets_theLastOneMayLackOnePage() {
        Bench desk = Bench.withPages(7, 0, 0);
        desk.is(2, d -> d.sheets());
        desk.is(6, d -> d.pageAt(1, 0, 0, 0));
        desk.is(-1, d -> d.pageAt(1, 1, 0, 0));
        desk.is(5, d -> d.pageAt(1, 0, 0, 1));
        desk.is(4, d -> d.pageAt(1, 1, 0, 1));
    }

    static void terms_sheets_theLastOneMayBeFull() {
        Bench desk = Bench.withPages(8, 0, 0);
        desk.is(2, d -> d.sheets());
        desk.is(7, d -> d.pageAt(1, 1, 0, 0));
        desk.refused(Bench.INDEX, d -> d.pageAt(2, 1, 0, 0));
    }

    static void terms_sheets_noneWithoutPages() {
        Bench desk = new Bench();
        desk.is(0, d -> d.sheets());
        desk.refused(Bench.INDEX, d -> d.isReady(0));
        desk.does(d -> d.insert(0, 0, 0));
        desk.is(1, d -> d.sheets());
        desk.does(d -> d.remove(0));
        desk.is(0, d -> d.sheets());
        desk.refused(Bench.INDEX, d -> d.isReady(0));
    }

    static void terms_sheets_oneMoreForThePageThatFindsNoRoom() {
        for (int folds = 1; folds <= 4; folds++) {
            int many = folds;
            int pagesOfSheet = 2 << folds;
            Bench desk = Bench.withPages(pagesOfSheet, 0, 0);
            desk.is(1, d -> d.setFolds(many, 0));
            desk.does(d -> d.insert(0, 0, 0));
            desk.is(2, d -> d.sheets());
            desk.does(d -> d.remove(0));
            desk.is(1, d -> d.sheets());
        }
    }

    static void terms_sheets_mostAre16AndFewestOf64PagesAre2() {
        Bench desk = Bench.withPages(64, 0, 0);
        desk.is(16, d -> d.sheets());
        desk.is(true, d -> d.isReady(15));
        desk.refused(Bench.INDEX, d -> d.isReady(16));
        desk.is(2, d -> d.setFolds(4, 0));
        desk.is(true, d -> d.isReady(1));
        desk.refused(Bench.INDEX, d -> d.isReady(2));
    }

    // ---- "so that the rightmost column comes to lie on the leftmost one", and so for the other kinds

    static void terms_fold_theOutermostColumnComesOntoTheOppositeOne() {
        Bench desk = Bench.withPages(8, 0, 0);
        desk.fold(R, R);
        desk.is(5, d -> d.pageAt(0, 0, 0, 3));
        desk.is(6, d -> d.pageAt(0, 0, 0, 0));
        desk.fold(L, L);
        desk.is(5, d -> d.pageAt(0, 0, 0, 0));
        desk.is(6, d -> d.pageAt(0, 0, 0, 3));
    }

    static void terms_fold_theOutermostRowComesOntoTheOppositeOne() {
        Bench desk = Bench.withPages(8, 0, 0);
        desk.fold(B, B);
        desk.is(5, d -> d.pageAt(0, 0, 3, 0));
        desk.is(6, d -> d.pageAt(0, 0, 0, 0));
        desk.fold(T, T);
        desk.is(5, d -> d.pageAt(0, 0, 0, 0));
        desk.is(6, d -> d.pageAt(0, 0, 3, 0));
    }

    // ---- "the side of the top leaf that looks up has the first page of the sheet, its other side the second one"

    static void terms_fold_theFirstPageLooksUpOnTopAndTheLastOneLooksDown() {
        Bench desk = Bench.withPages(4, 0, 0);
        int[][] kindRowColumn = {{R, 0, 1}, {L, 0, 0}, {B, 1, 0}, {T, 0, 0}};
        for (int[] top : kindRowColumn) {
            desk.fold(top[0]);
            int lowestRow = top[0] == T ? 1 : 0;
            int lowestColumn = top[0] == L ? 1 : 0;
            desk.is(0, d -> d.pageAt(0, 1, top[1], top[2]));
            desk.is(1, d -> d.pageAt(0, 0, top[1], top[2]));
            desk.is(2, d -> d.pageAt(0, 0, lowestRow, lowestColumn));
            desk.is(3, d -> d.pageAt(0, 1, lowestRow, lowestColumn));
        }
    }

    // ---- "if its leaf was turned over by an odd number of folds of the kinds BOTTOM and TOP together"

    /** Of 16 rows, those told are turned over by 0, 1, 2, 3 and 4 folds BOTTOM. */
    static void terms_turned_byNoneToFourFolds() {
        Bench desk = Bench.withPages(32, 0, 0);
        desk.fold(B, B, B, B);
        int[] rows = {0, 15, 12, 11, 10};
        int[] pages = {30, 29, 18, 21, 10};
        for (int turns = 0; turns <= 4; turns++) {
            int row = rows[turns];
            int page = pages[turns];
            desk.is(page, d -> d.pageAt(0, 0, row, 0));
            desk.is(turns % 2 == 1, d -> d.isTurned(page));
        }
    }

    static void terms_turned_byBottomAndTopTogether() {
        Bench desk = Bench.withPages(8, 0, 0);
        desk.fold(B, T);
        desk.is(2, d -> d.pageAt(0, 0, 3, 0));
        desk.is(false, d -> d.isTurned(2));
        desk.is(5, d -> d.pageAt(0, 0, 2, 0));
        desk.is(true, d -> d.isTurned(5));
    }

    static void terms_turned_notByFoldsToOneSide() {
        Bench desk = Bench.withPages(32, 0, 0);
        desk.fold(R, L, L, R);
        for (int place = 0; place < 32; place++) {
            int at = place;
            desk.is(false, d -> d.isTurned(at));
        }
    }

    // ---- "A font has a right from a day to a day, both included, or none, as at first"

    static void terms_right_noneAtFirst() {
        Bench desk = new Bench();
        for (int font = 0; font < 8; font++) {
            int one = font;
            desk.is(false, d -> d.mayUse(one));
            desk.refused(Bench.STATE, d -> d.withdraw(one));
        }
    }

    static void terms_right_theDayAheadOfItTheFirstTheLastAndTheOneBehind() {
        Bench desk = new Bench();
        desk.does(d -> d.setRight(5, 3, 6));
        desk.does(d -> d.pass(2));
        desk.is(false, d -> d.mayUse(5));
        desk.does(d -> d.pass(1));
        desk.is(true, d -> d.mayUse(5));
        desk.does(d -> d.pass(3));
        desk.is(true, d -> d.mayUse(5));
        desk.does(d -> d.pass(1));
        desk.is(false, d -> d.mayUse(5));
    }

    static void terms_right_ofOneDayAlone() {
        Bench desk = new Bench();
        desk.does(d -> d.setRight(5, 1, 1));
        desk.is(false, d -> d.mayUse(5));
        desk.does(d -> d.pass(1));
        desk.is(true, d -> d.mayUse(5));
        desk.does(d -> d.pass(1));
        desk.is(false, d -> d.mayUse(5));
    }

    static void terms_right_toTheLastDayThatThereCanBe() {
        Bench desk = new Bench();
        desk.does(d -> d.setRight(5, 9999, 9999));
        for (int call = 0; call < 99; call++) {
            desk.does(d -> d.pass(100));
        }
        desk.does(d -> d.pass(98));
        desk.is(9998, d -> d.today());
        desk.is(false, d -> d.mayUse(5));
        desk.does(d -> d.pass(1));
        desk.is(true, d -> d.mayUse(5));
        desk.does(d -> d.pass(1));
        desk.is(10000, d -> d.today());
        desk.is(false, d -> d.mayUse(5));
        desk.is(0, d -> d.setRight(5, 0, 9999));
        desk.is(false, d -> d.mayUse(5));
    }

    // ---- "When a font that could be used cannot be used any more .. all proofs of all pages that use it become none."

    /** A page with a proof that is approved, one that is made and one that is refused, and a page with no font. */
    private static Bench withProofsOfAllKinds(int from, int to) {
        Bench desk = new Bench();
        desk.does(d -> d.setRight(7, from, to));
        desk.does(d -> d.insert(0, 128, 7));
        desk.does(d -> d.insert(1, 0, 7));
        for (int place = 0; place < 2; place++) {
            int at = place;
            desk.approve(at, 0);
            desk.does(d -> d.prove(at, 1));
            desk.does(d -> d.prove(at, 2));
            desk.does(d -> d.judge(at, 2, false));
        }
        return desk;
    }

    private static void proofsAreNone(Bench desk, boolean want, int place) {
        int[] kinds = {ProofSheet.APPROVED, ProofSheet.MADE, ProofSheet.REFUSED, -1};
        for (int color = 0; color < 4; color++) {
            int one = color;
            boolean none = want && color < 3;
            desk.is(none ? ProofSheet.NONE : kinds[color], d -> d.proof(place, one));
        }
    }

    static void terms_proofs_stayOnTheLastDayAndAreNoneOnTheNext() {
        Bench desk = withProofsOfAllKinds(0, 2);
        desk.does(d -> d.pass(2));
        proofsAreNone(desk, false, 0);
        desk.does(d -> d.pass(1));
        proofsAreNone(desk, true, 0);
        proofsAreNone(desk, false, 1);
    }

    static void terms_proofs_areNoneWhenTheLastDayLiesAmongThoseThatPass() {
        Bench desk = withProofsOfAllKinds(0, 99);
        desk.does(d -> d.pass(99));
        proofsAreNone(desk, false, 0);
        desk = withProofsOfAllKinds(0, 99);
        desk.does(d -> d.pass(100));
        proofsAreNone(desk, true, 0);
        proofsAreNone(desk, false, 1);
    }

    static void terms_proofs_stayWhenTheNewRightHoldsToday() {
        Bench desk = withProofsOfAllKinds(0, 9);
        desk.does(d -> d.pass(4));
        desk.does(d -> d.setRight(7, 4, 4));
        proofsAreNone(desk, false, 0);
    }

    static void terms_proofs_areNoneWhenTheNewRightBeginsTomorrow() {
        Bench desk = withProofsOfAllKinds(0, 9);
        desk.does(d -> d.pass(4));
        desk.does(d -> d.setRight(7, 5, 9));
        proofsAreNone(desk, true, 0);
        proofsAreNone(desk, false, 1);
    }

    static void terms_proofs_areNoneWhenTheNewRightEndedYesterday() {
        Bench desk = withProofsOfAllKinds(0, 9);
        desk.does(d -> d.pass(4));
        desk.does(d -> d.setRight(7, 0, 3));
        proofsAreNone(desk, true, 0);
    }

    static void terms_proofs_areNoneWhenTheRightIsWithdrawn() {
        Bench desk = withProofsOfAllKinds(0, 9);
        desk.does(d -> d.withdraw(7));
        proofsAreNone(desk, true, 0);
        proofsAreNone(desk, false, 1);
    }

    static void terms_proofs_stayWhenAnotherFontIsLost() {
        Bench desk = withProofsOfAllKinds(0, 9);
        desk.does(d -> d.setRight(6, 0, 0));
        desk.does(d -> d.setRight(0, 0, 9));
        desk.does(d -> d.pass(1));
        desk.does(d -> d.withdraw(0));
        proofsAreNone(desk, false, 0);
    }

    static void terms_proofs_ofAll64PagesAreNone() {
        Bench desk = Bench.withPages(64, 128, 1);
        desk.does(d -> d.setRight(7, 0, 0));
        for (int place = 0; place < 64; place++) {
            int at = place;
            desk.is(1, d -> d.prove(at, 0));
        }
        desk.does(d -> d.pass(1));
        for (int place = 0; place < 64; place++) {
            int at = place;
            desk.is(ProofSheet.NONE, d -> d.proof(at, 0));
        }
    }

    // ---- "A page is finished if all its proofs are approved and all its fonts may be used."

    static void terms_finished_aPageWithoutColorsAndFontsIs() {
        Bench desk = Bench.withPages(1, 0, 0);
        desk.is(true, d -> d.isReady(0));
    }

    static void terms_finished_aPageWithoutColorsIsByItsFontsAlone() {
        Bench desk = Bench.withPages(1, 129, 0);
        desk.is(false, d -> d.isReady(0));
        desk.does(d -> d.setRight(0, 0, 5));
        desk.is(false, d -> d.isReady(0));
        desk.does(d -> d.setRight(7, 1, 1));
        desk.is(false, d -> d.isReady(0));
        desk.does(d -> d.pass(1));
        desk.is(true, d -> d.isReady(0));
        desk.does(d -> d.pass(1));
        desk.is(false, d -> d.isReady(0));
    }

    static void terms_finished_threeOfFourProofsAreNotEnough() {
        Bench desk = Bench.withPages(1, 0, 15);
        for (int color = 0; color < 3; color++) {
            desk.approve(0, color);
            desk.is(false, d -> d.isReady(0));
        }
        desk.does(d -> d.prove(0, 3));
        desk.is(false, d -> d.isReady(0));
        desk.does(d -> d.judge(0, 3, true));
        desk.is(true, d -> d.isReady(0));
    }

    // ---- "A sheet is ready if all its pages are finished."

    static void terms_ready_oneUnfinishedPageAtEitherEndOfASheet() {
        for (int place : new int[] {4, 7}) {
            Bench desk = Bench.withPages(12, 0, 0);
            desk.does(d -> d.edit(place, 0, 1));
            desk.is(true, d -> d.isReady(0));
            desk.is(false, d -> d.isReady(1));
            desk.is(true, d -> d.isReady(2));
            desk.approve(place, 0);
            desk.is(true, d -> d.isReady(1));
        }
    }

    // ---- "A sheet that was ready ahead of a call .. and is not behind it, is sent back by that."

    static void terms_sentBack_noneOfNoSheets() {
        Bench desk = new Bench();
        desk.is(0, d -> d.setRight(0, 0, 5));
        desk.is(0, d -> d.setRight(0, 1, 5));
        desk.is(0, d -> d.pass(100));
        desk.is(0, d -> d.withdraw(0));
    }

    static void terms_sentBack_all16Sheets() {
        Bench desk = Bench.withPages(64, 1, 0);
        desk.is(0, d -> d.setRight(0, 0, 0));
        desk.is(16, d -> d.pass(1));
        desk.is(0, d -> d.setRight(0, 1, 1));
        desk.is(16, d -> d.setRight(0, 2, 2));
        desk.is(0, d -> d.setRight(0, 1, 1));
        desk.is(16, d -> d.withdraw(0));
    }

    static void terms_sentBack_notASheetThatWasNotReady() {
        Bench desk = Bench.withPages(4, 1, 0);
        desk.does(d -> d.insert(4, 1, 1));
        desk.does(d -> d.setRight(0, 0, 0));
        desk.is(true, d -> d.isReady(0));
        desk.is(false, d -> d.isReady(1));
        desk.is(1, d -> d.pass(1));
    }

    static void terms_sentBack_notASheetThatStaysReady() {
        Bench desk = Bench.withPages(4, 1, 0);
        desk.does(d -> d.insert(4, 2, 0));
        desk.does(d -> d.setRight(0, 0, 5));
        desk.does(d -> d.setRight(1, 0, 5));
        desk.is(1, d -> d.withdraw(1));
        desk.is(true, d -> d.isReady(0));
        desk.is(1, d -> d.pass(6));
    }

    // ---- "A side of a sheet .. needs a plate of a colour if some page on that side uses it."

    static void terms_plate_neededByOnePageAlone() {
        for (int place = 0; place < 4; place++) {
            int at = place;
            int side = place == 1 || place == 2 ? 0 : 1;
            Bench desk = Bench.withPages(4, 0, 0);
            desk.does(d -> d.edit(at, 0, 4));
            desk.approve(at, 2);
            desk.is(1, d -> d.makePlates(0));
            desk.is(0, d -> d.wear(0, side, 2));
            desk.is(-1, d -> d.wear(0, 1 - side, 2));
        }
    }

    static void terms_plate_neededByNone() {
        Bench desk = Bench.withPages(4, 0, 0);
        desk.is(0, d -> d.makePlates(0));
        desk.is(1, d -> d.print(0, 1));
    }

    static void terms_plate_showsAll16PagesOfASide() {
        Bench desk = Bench.withPages(32, 0, 1);
        desk.fold(R, B, L, T);
        for (int place = 0; place < 32; place++) {
            desk.approve(place, 0);
        }
        desk.is(2, d -> d.makePlates(0));
        for (int place = 0; place < 32; place++) {
            int at = place;
            desk.is(0, d -> d.wear(0, 0, 0));
            desk.is(0, d -> d.wear(0, 1, 0));
            int side = desk.ask(d -> d.leafOf(at)) / 16;
            desk.does(d -> d.edit(at, 0, 1));
            desk.is(-1, d -> d.wear(0, side, 0));
            desk.is(0, d -> d.wear(0, 1 - side, 0));
            desk.approve(at, 0);
            desk.is(1, d -> d.makePlates(0));
        }
    }

    // ---- "it is good as long as it would show the same if it were made now, and .. for fewer than 1000 copies"

    private static Bench printed(int... copies) {
        Bench desk = Bench.withPages(1, 0, 1);
        desk.approve(0, 0);
        desk.does(d -> d.makePlates(0));
        for (int many : copies) {
            desk.does(d -> d.print(0, many));
        }
        return desk;
    }

    static void terms_plate_isGoodBehind999Copies() {
        Bench desk = printed(500, 499);
        desk.is(999, d -> d.wear(0, 1, 0));
        desk.is(0, d -> d.makePlates(0));
        desk.is(1000, d -> d.print(0, 1));
    }

    static void terms_plate_isNotGoodBehind1000Copies() {
        Bench desk = printed(500, 500);
        desk.is(-1, d -> d.wear(0, 1, 0));
        desk.refused(Bench.STATE, d -> d.print(0, 1));
        desk.is(1, d -> d.makePlates(0));
        desk.is(0, d -> d.wear(0, 1, 0));
    }

    static void terms_plate_isGoodForThePageItselfWhereverItStands() {
        Bench desk = Bench.withPages(8, 0, 0);
        desk.does(d -> d.edit(0, 0, 1));
        desk.approve(0, 0);
        desk.does(d -> d.makePlates(0));
        desk.does(d -> d.move(0, 7));
        desk.is(-1, d -> d.wear(0, 1, 0));
        desk.does(d -> d.move(7, 0));
        desk.is(0, d -> d.wear(0, 1, 0));
        desk.does(d -> d.remove(7));
        desk.is(0, d -> d.wear(0, 1, 0));
    }

    static void terms_plate_isNotGoodForAnotherPageThatLooksTheSame() {
        Bench desk = printed();
        desk.does(d -> d.remove(0));
        desk.does(d -> d.insert(0, 0, 1));
        desk.approve(0, 0);
        desk.is(-1, d -> d.wear(0, 1, 0));
        desk.is(1, d -> d.makePlates(0));
    }

    static void terms_plate_isNotGoodForTheNextEdition() {
        Bench desk = printed();
        desk.does(d -> d.edit(0, 0, 1));
        desk.approve(0, 0);
        desk.is(-1, d -> d.wear(0, 1, 0));
        desk.is(1, d -> d.makePlates(0));
    }

    /** LEFT and TOP both lay the page on the back, in the row 0 and the column 0; TOP turns it. */
    static void terms_plate_isNotGoodWhenOnlyTurned() {
        Bench desk = Bench.withPages(1, 0, 1);
        desk.approve(0, 0);
        desk.fold(L);
        desk.does(d -> d.makePlates(0));
        desk.is(16, d -> d.leafOf(0));
        desk.fold(T);
        desk.is(16, d -> d.leafOf(0));
        desk.is(-1, d -> d.wear(0, 1, 0));
        desk.fold(L);
        desk.is(0, d -> d.wear(0, 1, 0));
    }

    static void terms_plate_isNotGoodWhenOnlyLaidElsewhere() {
        Bench desk = Bench.withPages(1, 0, 1);
        desk.approve(0, 0);
        desk.fold(L);
        desk.does(d -> d.makePlates(0));
        desk.fold(R);
        desk.is(17, d -> d.leafOf(0));
        desk.is(-1, d -> d.wear(0, 1, 0));
    }

    static void terms_plate_isNotGoodWhenTurnedAndLaidOneColumnAside() {
        Bench desk = Bench.withPages(1, 0, 1);
        desk.approve(0, 0);
        desk.does(d -> d.makePlates(0));
        desk.is(17, d -> d.leafOf(0));
        desk.fold(T);
        desk.is(16, d -> d.leafOf(0));
        desk.is(true, d -> d.isTurned(0));
        desk.is(-1, d -> d.wear(0, 1, 0));
        desk.fold(R);
        desk.is(0, d -> d.wear(0, 1, 0));
    }

    /** On the back and turned by both, in the row 1 and the column 0, and the other way round. */
    static void terms_plate_isNotGoodWhenRowAndColumnChangeRoles() {
        Bench desk = Bench.withPages(1, 0, 1);
        desk.approve(0, 0);
        desk.fold(R, B);
        desk.does(d -> d.makePlates(0));
        desk.is(18, d -> d.leafOf(0));
        desk.is(true, d -> d.isTurned(0));
        desk.fold(L, T);
        desk.is(17, d -> d.leafOf(0));
        desk.is(true, d -> d.isTurned(0));
        desk.is(-1, d -> d.wear(0, 1, 0));
    }

    static void terms_plate_isNotGoodForALaterPageOfAnEarlierEdition() {
        for (int editions = 1; editions <= 4; editions++) {
            for (int others = 1; others <= 4; others++) {
                Bench desk = Bench.withPages(1, 0, 1);
                for (int edition = 1; edition < editions; edition++) {
                    desk.does(d -> d.edit(0, 0, 1));
                }
                desk.approve(0, 0);
                desk.does(d -> d.makePlates(0));
                desk.does(d -> d.remove(0));
                desk.does(d -> d.insert(0, 0, 1));
                for (int edition = 1; edition < others; edition++) {
                    desk.does(d -> d.edit(0, 0, 1));
                }
                desk.is(-1, d -> d.wear(0, 1, 0));
            }
        }
    }

    /**
     * Two pages that were made one after another, or with one or three between: a plate that shows the one is not good
     * for the other one, wherever that is laid, turned or not.
     */
    static void terms_plate_isNotGoodForAnotherPageLaidElsewhere() {
        int[][] folds = {{B, B, B, B}, {R, R, R, R}, {R, B, R, B}};
        for (int[] kinds : folds) {
            for (int other : new int[] {28, 30, 31, 33, 34, 36}) {
                for (int fromAndTo = 0; fromAndTo < 32 * 32; fromAndTo++) {
                    onePageThenAnother(kinds, other, fromAndTo / 32, fromAndTo % 32);
                }
            }
        }
    }

    /** The page that was made as the number 32 is laid on the first sheet alone, then another one alone. */
    private static void onePageThenAnother(int[] kinds, int other, int from, int to) {
        Bench desk = new Bench();
        for (int page = 0; page < 64; page++) {
            int at = page;
            desk.does(d -> d.insert(at, 0, at == 32 || at == other ? 1 : 0));
        }
        desk.fold(kinds);
        if (other < 32) {
            desk.does(d -> d.move(other, 63));
            desk.does(d -> d.move(31, from));
        } else {
            desk.does(d -> d.move(32, from));
        }
        desk.approve(from, 0);
        desk.does(d -> d.makePlates(0));
        int side = desk.ask(d -> d.leafOf(from)) / 16;
        desk.is(0, d -> d.wear(0, side, 0));
        desk.does(d -> d.move(from, 40));
        desk.is(-1, d -> d.wear(0, side, 0));
        int where = other < 32 ? 63 : other - 1;
        desk.does(d -> d.move(where, to));
        desk.is(ProofSheet.NONE, d -> d.proof(to, 0));
        desk.is(-1, d -> d.wear(0, side, 0));
    }

    // ---- "plates that a sheet does not need any more are kept as they are, also when sheets are fewer, or when folds
    // change"

    static void terms_plate_isKeptWhileNotNeeded() {
        Bench desk = Bench.withPages(5, 0, 0);
        desk.does(d -> d.edit(4, 0, 1));
        desk.approve(4, 0);
        desk.does(d -> d.makePlates(1));
        desk.does(d -> d.print(1, 9));
        desk.does(d -> d.move(4, 3));
        desk.is(-1, d -> d.wear(1, 1, 0));
        desk.is(0, d -> d.makePlates(1));
        desk.does(d -> d.move(3, 4));
        desk.is(9, d -> d.wear(1, 1, 0));
        desk.is(0, d -> d.makePlates(1));
    }

    static void terms_plate_isKeptWhileSheetsAreFewer() {
        Bench desk = Bench.withPages(5, 0, 0);
        desk.does(d -> d.edit(4, 0, 1));
        desk.approve(4, 0);
        desk.does(d -> d.makePlates(1));
        desk.does(d -> d.print(1, 9));
        desk.does(d -> d.remove(0));
        desk.refused(Bench.INDEX, d -> d.wear(1, 1, 0));
        desk.does(d -> d.insert(0, 0, 0));
        desk.is(9, d -> d.wear(1, 1, 0));
        desk.is(1, d -> d.plates());
    }

    static void terms_plate_isKeptWhileFoldsAreOthers() {
        Bench desk = Bench.withPages(64, 0, 0);
        desk.does(d -> d.edit(60, 0, 1));
        desk.approve(60, 0);
        desk.does(d -> d.makePlates(15));
        desk.does(d -> d.print(15, 9));
        desk.fold(T, T, T, T);
        desk.is(2, d -> d.sheets());
        desk.does(d -> d.makePlates(1));
        desk.fold(R);
        desk.is(9, d -> d.wear(15, 1, 0));
        desk.is(2, d -> d.plates());
    }

    // ---- "each plate that it needs is used for each copy"

    /** The pages at the places 1 and 7, the first one with colours, change places. */
    private static void changePlaces(Bench desk) {
        desk.does(d -> d.move(1, 7));
        desk.does(d -> d.move(6, 1));
    }

    static void terms_run_usesWhatTheSheetNeedsAndNothingElse() {
        Bench desk = Bench.withPages(8, 0, 0);
        for (int place : new int[] {0, 1, 4}) {
            desk.does(d -> d.edit(place, 0, 9));
            desk.approveAll(place, place);
        }
        desk.does(d -> d.makePlates(0));
        desk.does(d -> d.makePlates(1));
        desk.does(d -> d.print(0, 5));
        changePlaces(desk);
        desk.does(d -> d.print(0, 20));
        changePlaces(desk);
        desk.is(25, d -> d.wear(0, 1, 0));
        desk.is(25, d -> d.wear(0, 1, 3));
        desk.is(5, d -> d.wear(0, 0, 0));
        desk.is(5, d -> d.wear(0, 0, 3));
        desk.is(0, d -> d.wear(1, 1, 0));
        desk.is(0, d -> d.wear(1, 1, 3));
    }
}
