/** The boundary cases of the promises 1 to 8: a new object, and the pages. */
public final class BoundsOfPagesTest {
    /** Not the number of a page, with nine of them. */
    private static final int[] NO_PLACES_OF_NINE = {-1, 9, 64, Bench.LEAST, Bench.MOST};
    private static final int[] NO_FONTS = {-1, 256, Bench.LEAST, Bench.MOST};
    private static final int[] NO_COLORS = {-1, 16, Bench.LEAST, Bench.MOST};

    public static void main(String[] args) {
        Cases.run(BoundsOfPagesTest.class);
    }

    /** Pages are told from one another by their editions: these stand at the places from 0 on. */
    private static void editionsAre(Bench desk, int... editions) {
        desk.is(editions.length, d -> d.pages());
        for (int place = 0; place < editions.length; place++) {
            int at = place;
            desk.is(editions[at], d -> d.edition(at));
        }
    }

    /** So many pages, with the editions 1, 2, 3 and so on. */
    private static Bench withEditions(int many) {
        Bench desk = Bench.withPages(many, 0, 0);
        for (int place = 0; place < many; place++) {
            int at = place;
            for (int edit = 0; edit < place; edit++) {
                desk.does(d -> d.edit(at, 0, 0));
            }
        }
        return desk;
    }

    // ---- Promise 1: "a desk without pages, and fonts without rights, on the day 0"

    static void p01_newObject_hasNoPagesNoRightsAndTheDay0() {
        Bench desk = new Bench();
        desk.is(0, d -> d.pages());
        desk.is(0, d -> d.sheets());
        desk.is(0, d -> d.today());
        desk.is(0, d -> d.plates());
        for (int font = 0; font < 8; font++) {
            int one = font;
            desk.is(false, d -> d.mayUse(one));
            desk.refused(Bench.STATE, d -> d.withdraw(one));
        }
    }

    static void p01_newObject_hasNoPageAndNoSheet0() {
        Bench desk = new Bench();
        desk.refused(Bench.INDEX, d -> d.remove(0));
        desk.refused(Bench.INDEX, d -> d.move(0, 0));
        desk.refused(Bench.INDEX, d -> d.edit(0, 0, 0));
        desk.refused(Bench.INDEX, d -> d.edition(0));
        desk.refused(Bench.INDEX, d -> d.leafOf(0));
        desk.refused(Bench.INDEX, d -> d.isTurned(0));
        desk.refused(Bench.INDEX, d -> d.prove(0, 0));
        desk.refused(Bench.INDEX, d -> d.judge(0, 0, true));
        desk.refused(Bench.INDEX, d -> d.proof(0, 0));
        desk.refused(Bench.INDEX, d -> d.pageAt(0, 0, 0, 0));
        desk.refused(Bench.INDEX, d -> d.pageByRule(0, 0, 0, 0));
        desk.refused(Bench.INDEX, d -> d.isReady(0));
        desk.refused(Bench.INDEX, d -> d.makePlates(0));
        desk.refused(Bench.INDEX, d -> d.wear(0, 0, 0));
        desk.refused(Bench.INDEX, d -> d.print(0, 1));
    }

    static void p01_newObject_hasNothingOfAnotherOne() {
        Bench.atWork();
        Bench desk = new Bench();
        desk.is(0, d -> d.pages());
        desk.is(0, d -> d.today());
        desk.is(0, d -> d.plates());
        desk.is(1, d -> d.insert(0, 0, 0));
        desk.is(1, d -> d.print(0, 1));
    }

    // ---- Promise 2: insert, "place: 0 to the number of pages"

    static void p02_insert_place0OfNone() {
        Bench desk = new Bench();
        desk.is(1, d -> d.insert(0, 0, 0));
        editionsAre(desk, 1);
    }

    static void p02_insert_place1OfNoneIsRefused() {
        Bench desk = new Bench();
        for (int place : new int[] {-1, 1, Bench.LEAST, Bench.MOST}) {
            desk.refused(Bench.INDEX, d -> d.insert(place, 0, 0));
        }
    }

    static void p02_insert_place0MovesAllOn() {
        Bench desk = withEditions(3);
        desk.is(4, d -> d.insert(0, 0, 0));
        editionsAre(desk, 1, 1, 2, 3);
    }

    static void p02_insert_theNumberOfPagesMovesNone() {
        Bench desk = withEditions(3);
        desk.is(4, d -> d.insert(3, 0, 0));
        editionsAre(desk, 1, 2, 3, 1);
    }

    static void p02_insert_aheadOfTheLastPage() {
        Bench desk = withEditions(3);
        desk.is(4, d -> d.insert(2, 0, 0));
        editionsAre(desk, 1, 2, 1, 3);
    }

    static void p02_insert_placeBelow0OrAboveTheNumberOfPagesIsRefused() {
        Bench desk = Bench.atWork();
        for (int place : new int[] {-1, 10, 64, Bench.LEAST, Bench.MOST}) {
            desk.refused(Bench.INDEX, d -> d.insert(place, 0, 0));
        }
    }

    static void p02_insert_fonts0And255() {
        Bench desk = new Bench();
        desk.is(1, d -> d.insert(0, 0, 1));
        desk.is(2, d -> d.insert(1, 255, 1));
        for (int font = 0; font < 7; font++) {
            int one = font;
            desk.does(d -> d.setRight(one, 0, 0));
        }
        desk.is(1, d -> d.prove(0, 0));
        desk.refused(Bench.STATE, d -> d.prove(1, 0));
        desk.does(d -> d.setRight(7, 0, 0));
        desk.is(1, d -> d.prove(1, 0));
    }

    static void p02_insert_fontsBelow0AndAbove255AreRefused() {
        Bench desk = Bench.atWork();
        for (int fonts : NO_FONTS) {
            desk.refused(Bench.ARGUMENT, d -> d.insert(0, fonts, 0));
        }
    }

    static void p02_insert_colors0And15() {
        Bench desk = new Bench();
        desk.is(1, d -> d.insert(0, 0, 0));
        desk.is(2, d -> d.insert(1, 0, 15));
        for (int color = 0; color < 4; color++) {
            int one = color;
            desk.is(-1, d -> d.proof(0, one));
            desk.is(ProofSheet.NONE, d -> d.proof(1, one));
        }
    }

    static void p02_insert_colorsBelow0AndAbove15AreRefused() {
        Bench desk = Bench.atWork();
        for (int colors : NO_COLORS) {
            desk.refused(Bench.ARGUMENT, d -> d.insert(9, 0, colors));
        }
    }

    static void p02_insert_thePage64IsTheLast() {
        Bench desk = Bench.withPages(63, 0, 0);
        desk.is(64, d -> d.insert(0, 0, 0));
        desk.refused(Bench.STATE, d -> d.insert(0, 0, 0));
        desk.refused(Bench.STATE, d -> d.insert(63, 0, 0));
        desk.refused(Bench.STATE, d -> d.insert(64, 0, 0));
    }

    static void p02_insert_thePage64MovesTheOthersOn() {
        Bench desk = withEditions(3);
        desk.insertPages(60, 0, 0);
        desk.is(64, d -> d.insert(0, 0, 0));
        desk.is(3, d -> d.edition(63));
        desk.is(2, d -> d.edition(62));
    }

    static void p02_insert_thePage100ThatIsMadeIsTheLast() {
        Bench desk = Bench.withPages(64, 0, 0);
        desk.removePages(64);
        desk.insertPages(35, 0, 0);
        desk.is(36, d -> d.insert(35, 0, 0));
        desk.refused(Bench.STATE, d -> d.insert(0, 0, 0));
        desk.does(d -> d.remove(0));
        desk.refused(Bench.STATE, d -> d.insert(0, 0, 0));
        desk.is(35, d -> d.pages());
    }

    static void p02_insert_placeIsLookedAtAheadOfFontsAndColors() {
        Bench desk = Bench.atWork();
        desk.refused(Bench.INDEX, d -> d.insert(-1, -1, 0));
        desk.refused(Bench.INDEX, d -> d.insert(10, 0, 16));
        desk.refused(Bench.INDEX, d -> d.insert(Bench.MOST, 256, -1));
    }

    static void p02_insert_placeIsLookedAtAheadOfTheRoom() {
        Bench desk = Bench.withPages(64, 0, 0);
        desk.refused(Bench.INDEX, d -> d.insert(-1, 0, 0));
        desk.refused(Bench.INDEX, d -> d.insert(65, 0, 0));
        desk.refused(Bench.INDEX, d -> d.insert(65, 256, 16));
        desk.removePages(64);
        desk.insertPages(36, 0, 0);
        desk.refused(Bench.INDEX, d -> d.insert(37, 0, 0));
        desk.refused(Bench.INDEX, d -> d.insert(-1, -1, -1));
    }

    static void p02_insert_fontsAndColorsAreLookedAtAheadOfTheRoom() {
        Bench desk = Bench.withPages(64, 0, 0);
        desk.refused(Bench.ARGUMENT, d -> d.insert(64, 256, 0));
        desk.refused(Bench.ARGUMENT, d -> d.insert(0, 0, 16));
        desk.removePages(64);
        desk.insertPages(36, 0, 0);
        desk.refused(Bench.ARGUMENT, d -> d.insert(36, -1, 0));
        desk.refused(Bench.ARGUMENT, d -> d.insert(0, 0, -1));
    }

    // ---- Promise 3: remove

    static void p03_remove_theOnlyPage() {
        Bench desk = Bench.withPages(1, 0, 0);
        desk.is(0, d -> d.remove(0));
        desk.is(0, d -> d.sheets());
        desk.refused(Bench.INDEX, d -> d.remove(0));
    }

    static void p03_remove_theFirstPageMovesAllUp() {
        Bench desk = withEditions(4);
        desk.is(3, d -> d.remove(0));
        editionsAre(desk, 2, 3, 4);
    }

    static void p03_remove_theLastPageMovesNone() {
        Bench desk = withEditions(4);
        desk.is(3, d -> d.remove(3));
        editionsAre(desk, 1, 2, 3);
    }

    static void p03_remove_aPageInTheMiddle() {
        Bench desk = withEditions(4);
        desk.is(3, d -> d.remove(2));
        editionsAre(desk, 1, 2, 4);
    }

    static void p03_remove_from64Pages() {
        Bench desk = withEditions(3);
        desk.insertPages(61, 0, 0);
        desk.is(63, d -> d.remove(0));
        desk.is(3, d -> d.edition(62));
        desk.is(62, d -> d.remove(62));
        desk.is(2, d -> d.edition(61));
        desk.refused(Bench.INDEX, d -> d.remove(62));
    }

    static void p03_remove_noSuchPage() {
        Bench desk = Bench.atWork();
        for (int place : NO_PLACES_OF_NINE) {
            desk.refused(Bench.INDEX, d -> d.remove(place));
        }
    }

    // ---- Promise 4: move

    static void p04_move_fromTheFirstToTheLastPlace() {
        Bench desk = withEditions(4);
        desk.does(d -> d.move(0, 3));
        editionsAre(desk, 2, 3, 4, 1);
    }

    static void p04_move_fromTheLastToTheFirstPlace() {
        Bench desk = withEditions(4);
        desk.does(d -> d.move(3, 0));
        editionsAre(desk, 4, 1, 2, 3);
    }

    static void p04_move_toTheNextPlaceAndBack() {
        Bench desk = withEditions(4);
        desk.does(d -> d.move(1, 2));
        editionsAre(desk, 1, 3, 2, 4);
        desk.does(d -> d.move(2, 1));
        editionsAre(desk, 1, 2, 3, 4);
    }

    static void p04_move_toItsOwnPlace() {
        Bench desk = withEditions(4);
        for (int place = 0; place < 4; place++) {
            int at = place;
            desk.does(d -> d.move(at, at));
            editionsAre(desk, 1, 2, 3, 4);
        }
    }

    static void p04_move_theOnlyPage() {
        Bench desk = Bench.withPages(1, 0, 0);
        desk.does(d -> d.move(0, 0));
        editionsAre(desk, 1);
        desk.refused(Bench.INDEX, d -> d.move(0, 1));
        desk.refused(Bench.INDEX, d -> d.move(1, 0));
    }

    static void p04_move_among64Pages() {
        Bench desk = withEditions(3);
        desk.insertPages(61, 0, 0);
        desk.does(d -> d.move(63, 0));
        desk.is(3, d -> d.edition(0));
        desk.is(2, d -> d.edition(63));
        desk.does(d -> d.move(0, 63));
        desk.is(3, d -> d.edition(63));
        desk.is(2, d -> d.edition(62));
        desk.is(64, d -> d.pages());
        desk.refused(Bench.INDEX, d -> d.move(0, 64));
        desk.refused(Bench.INDEX, d -> d.move(64, 0));
    }

    static void p04_move_takesItsProofsWithIt() {
        Bench desk = Bench.withPages(3, 0, 1);
        desk.approve(0, 0);
        desk.does(d -> d.move(0, 2));
        desk.is(ProofSheet.APPROVED, d -> d.proof(2, 0));
        desk.is(ProofSheet.NONE, d -> d.proof(0, 0));
    }

    static void p04_move_noPageAtTheFirstPlace() {
        Bench desk = Bench.atWork();
        for (int place : NO_PLACES_OF_NINE) {
            desk.refused(Bench.INDEX, d -> d.move(place, 0));
            desk.refused(Bench.INDEX, d -> d.move(place, 8));
        }
    }

    static void p04_move_noPageAtTheOtherPlace() {
        Bench desk = Bench.atWork();
        for (int place : NO_PLACES_OF_NINE) {
            desk.refused(Bench.INDEX, d -> d.move(0, place));
            desk.refused(Bench.INDEX, d -> d.move(8, place));
        }
    }

    static void p04_move_noPageAtBothPlaces() {
        Bench desk = Bench.atWork();
        for (int place : NO_PLACES_OF_NINE) {
            desk.refused(Bench.INDEX, d -> d.move(place, place));
        }
    }

    // ---- Promise 5: edit

    static void p05_edit_theFirstAndTheLastPage() {
        Bench desk = Bench.withPages(3, 0, 0);
        desk.is(2, d -> d.edit(0, 0, 0));
        desk.is(2, d -> d.edit(2, 0, 0));
        desk.is(3, d -> d.edit(2, 0, 0));
        editionsAre(desk, 2, 1, 3);
    }

    static void p05_edit_thePage64() {
        Bench desk = Bench.withPages(64, 0, 0);
        desk.is(2, d -> d.edit(63, 255, 15));
        desk.refused(Bench.INDEX, d -> d.edit(64, 0, 0));
    }

    static void p05_edit_noSuchPage() {
        Bench desk = Bench.atWork();
        for (int place : NO_PLACES_OF_NINE) {
            desk.refused(Bench.INDEX, d -> d.edit(place, 0, 0));
        }
    }

    static void p05_edit_fonts0And255() {
        Bench desk = Bench.withPages(1, 1, 1);
        desk.is(2, d -> d.edit(0, 255, 1));
        for (int font = 0; font < 7; font++) {
            int one = font;
            desk.does(d -> d.setRight(one, 0, 0));
        }
        desk.refused(Bench.STATE, d -> d.prove(0, 0));
        desk.is(3, d -> d.edit(0, 0, 1));
        desk.is(1, d -> d.prove(0, 0));
    }

    static void p05_edit_fontsBelow0AndAbove255AreRefused() {
        Bench desk = Bench.atWork();
        for (int fonts : NO_FONTS) {
            desk.refused(Bench.ARGUMENT, d -> d.edit(0, fonts, 0));
            desk.refused(Bench.ARGUMENT, d -> d.edit(4, fonts, 15));
        }
    }

    static void p05_edit_colors0And15() {
        Bench desk = Bench.withPages(1, 0, 1);
        desk.is(2, d -> d.edit(0, 0, 15));
        for (int color = 0; color < 4; color++) {
            int one = color;
            desk.is(ProofSheet.NONE, d -> d.proof(0, one));
        }
        desk.is(3, d -> d.edit(0, 0, 0));
        for (int color = 0; color < 4; color++) {
            int one = color;
            desk.is(-1, d -> d.proof(0, one));
        }
    }

    static void p05_edit_colorsBelow0AndAbove15AreRefused() {
        Bench desk = Bench.atWork();
        for (int colors : NO_COLORS) {
            desk.refused(Bench.ARGUMENT, d -> d.edit(0, 0, colors));
            desk.refused(Bench.ARGUMENT, d -> d.edit(4, 255, colors));
        }
    }

    static void p05_edit_proofsOfEachKindBecomeNone() {
        Bench desk = Bench.atWork();
        desk.is(2, d -> d.edit(4, 0, 15));
        for (int color = 0; color < 4; color++) {
            int one = color;
            desk.is(ProofSheet.NONE, d -> d.proof(4, one));
        }
        desk.is(ProofSheet.APPROVED, d -> d.proof(3, 0));
    }

    /** A colour that was given up and is used again has no old proof. */
    static void p05_edit_aProofDoesNotComeBackWithItsColor() {
        Bench desk = Bench.withPages(1, 0, 3);
        desk.approve(0, 0);
        desk.approve(0, 1);
        desk.does(d -> d.edit(0, 0, 1));
        desk.is(-1, d -> d.proof(0, 1));
        desk.does(d -> d.edit(0, 0, 3));
        desk.is(ProofSheet.NONE, d -> d.proof(0, 1));
        desk.is(false, d -> d.isReady(0));
    }

    static void p05_edit_placeIsLookedAtAheadOfFontsAndColors() {
        Bench desk = Bench.atWork();
        desk.refused(Bench.INDEX, d -> d.edit(9, 256, 0));
        desk.refused(Bench.INDEX, d -> d.edit(-1, 0, -1));
        desk.refused(Bench.INDEX, d -> d.edit(Bench.LEAST, -1, 16));
    }

    // ---- Promise 6: replace, "font: 0 to 7", "other: 0 to 7: the one in its place, another one"

    static void p06_replace_withoutPages() {
        Bench desk = new Bench();
        desk.is(0, d -> d.replace(0, 7));
    }

    static void p06_replace_aFontThatNoPageUses() {
        Bench desk = Bench.withPages(3, 254, 1);
        desk.is(0, d -> d.replace(0, 7));
        editionsAre(desk, 1, 1, 1);
    }

    static void p06_replace_font0ByFont7AndBack() {
        Bench desk = Bench.withPages(1, 1, 1);
        desk.does(d -> d.setRight(7, 0, 0));
        desk.is(1, d -> d.replace(0, 7));
        desk.is(1, d -> d.prove(0, 0));
        desk.is(1, d -> d.replace(7, 0));
        desk.refused(Bench.STATE, d -> d.prove(0, 0));
        editionsAre(desk, 3);
    }

    static void p06_replace_inAll64Pages() {
        Bench desk = Bench.withPages(64, 8, 0);
        desk.is(64, d -> d.replace(3, 4));
        for (int place = 0; place < 64; place++) {
            int at = place;
            desk.is(2, d -> d.edition(at));
        }
        desk.is(0, d -> d.replace(3, 4));
    }

    static void p06_replace_inAPageThatUsesBothAlready() {
        Bench desk = Bench.withPages(1, 3, 1);
        desk.does(d -> d.setRight(1, 0, 0));
        desk.is(1, d -> d.replace(0, 1));
        desk.is(1, d -> d.prove(0, 0));
        desk.is(1, d -> d.replace(1, 0));
        desk.is(0, d -> d.replace(1, 0));
        desk.is(ProofSheet.NONE, d -> d.proof(0, 0));
    }

    static void p06_replace_inAPageThatUsesAllFonts() {
        Bench desk = Bench.withPages(1, 255, 0);
        desk.is(1, d -> d.replace(7, 6));
        desk.is(0, d -> d.replace(7, 6));
        for (int font = 0; font < 6; font++) {
            int one = font;
            desk.is(1, d -> d.replace(one, 7));
        }
    }

    static void p06_replace_proofsOfEachKindBecomeNone() {
        Bench desk = Bench.withPages(2, 1, 7);
        desk.does(d -> d.edit(1, 2, 7));
        desk.does(d -> d.setRight(0, 0, 9));
        desk.does(d -> d.setRight(1, 0, 9));
        for (int place = 0; place < 2; place++) {
            int at = place;
            desk.approve(at, 0);
            desk.does(d -> d.prove(at, 1));
            desk.does(d -> d.prove(at, 2));
            desk.does(d -> d.judge(at, 2, false));
        }
        desk.is(1, d -> d.replace(0, 1));
        for (int color = 0; color < 3; color++) {
            int one = color;
            desk.is(ProofSheet.NONE, d -> d.proof(0, one));
        }
        desk.is(ProofSheet.APPROVED, d -> d.proof(1, 0));
        desk.is(ProofSheet.MADE, d -> d.proof(1, 1));
        desk.is(ProofSheet.REFUSED, d -> d.proof(1, 2));
    }

    static void p06_replace_keepsColorsAndOtherFonts() {
        Bench desk = Bench.withPages(1, 129, 8);
        desk.does(d -> d.setRight(2, 0, 0));
        desk.is(1, d -> d.replace(0, 2));
        desk.is(ProofSheet.NONE, d -> d.proof(0, 3));
        desk.is(-1, d -> d.proof(0, 0));
        desk.refused(Bench.STATE, d -> d.prove(0, 3));
        desk.does(d -> d.setRight(7, 0, 0));
        desk.is(1, d -> d.prove(0, 3));
    }

    static void p06_replace_fontBelow0AndAbove7IsRefused() {
        Bench desk = Bench.atWork();
        for (int font : new int[] {-1, 8, 32, Bench.LEAST, Bench.MOST}) {
            desk.refused(Bench.ARGUMENT, d -> d.replace(font, 0));
            desk.refused(Bench.ARGUMENT, d -> d.replace(font, 7));
        }
    }

    static void p06_replace_otherBelow0AndAbove7IsRefused() {
        Bench desk = Bench.atWork();
        for (int other : new int[] {-1, 8, 32, Bench.LEAST, Bench.MOST}) {
            desk.refused(Bench.ARGUMENT, d -> d.replace(0, other));
            desk.refused(Bench.ARGUMENT, d -> d.replace(7, other));
        }
    }

    static void p06_replace_theSameFontIsRefused() {
        Bench desk = Bench.atWork();
        for (int font : new int[] {0, 1, 7, -1, 8}) {
            desk.refused(Bench.ARGUMENT, d -> d.replace(font, font));
        }
    }

    // ---- Promise 7: pages

    static void p07_pages_0To64() {
        Bench desk = new Bench();
        for (int many = 0; many < 64; many++) {
            desk.is(many, d -> d.pages());
            desk.does(d -> d.insert(0, 0, 0));
        }
        desk.is(64, d -> d.pages());
        desk.refused(Bench.STATE, d -> d.insert(0, 0, 0));
        desk.is(64, d -> d.pages());
    }

    static void p07_pages_backTo0() {
        Bench desk = Bench.withPages(64, 0, 0);
        desk.removePages(63);
        desk.is(1, d -> d.pages());
        desk.removePages(1);
        desk.is(0, d -> d.pages());
    }

    // ---- Promise 8: edition

    static void p08_edition_ofTheFirstAndTheLastPage() {
        Bench desk = withEditions(5);
        desk.is(1, d -> d.edition(0));
        desk.is(5, d -> d.edition(4));
        desk.refused(Bench.INDEX, d -> d.edition(5));
    }

    static void p08_edition_ofThePage64() {
        Bench desk = Bench.withPages(64, 0, 0);
        desk.does(d -> d.edit(63, 0, 0));
        desk.is(2, d -> d.edition(63));
        desk.refused(Bench.INDEX, d -> d.edition(64));
    }

    static void p08_edition_noSuchPage() {
        Bench desk = Bench.atWork();
        for (int place : NO_PLACES_OF_NINE) {
            desk.refused(Bench.INDEX, d -> d.edition(place));
        }
    }
}
