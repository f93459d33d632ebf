/** The boundary cases of the promises 17 to 21: fonts and days. */
public final class BoundsOfFontsTest {
    private static final int[] NO_FONTS = {-1, 8, 32, Bench.LEAST, Bench.MOST};

    public static void main(String[] args) {
        Cases.run(BoundsOfFontsTest.class);
    }

    /** Three sheets that are ready: the fonts 0 and 7 are on the first one, 0 on the second, none on the third. */
    private static Bench threeReadySheets(int lastDayOf0, int lastDayOf7) {
        Bench desk = new Bench();
        int[] fonts = {1, 0, 0, 128, 0, 0, 1, 0, 0};
        desk.does(d -> d.setRight(0, 0, lastDayOf0));
        desk.does(d -> d.setRight(7, 0, lastDayOf7));
        for (int place = 0; place < fonts.length; place++) {
            int at = place;
            desk.does(d -> d.insert(at, fonts[at], 1));
            desk.approve(at, 0);
        }
        return desk;
    }

    private static void readyAre(Bench desk, boolean... ready) {
        for (int sheet = 0; sheet < ready.length; sheet++) {
            int one = sheet;
            desk.is(ready[one], d -> d.isReady(one));
        }
    }

    // ---- Promise 17: setRight, "font: 0 to 7", "from: 0 to 9999", "to: from to 9999"

    static void p17_setRight_font0And7() {
        Bench desk = new Bench();
        desk.is(0, d -> d.setRight(0, 0, 9));
        desk.is(0, d -> d.setRight(7, 0, 9));
        for (int font = 0; font < 8; font++) {
            int one = font;
            desk.is(one == 0 || one == 7, d -> d.mayUse(one));
        }
    }

    static void p17_setRight_fontBelow0AndAbove7IsRefused() {
        Bench desk = Bench.atWork();
        for (int font : NO_FONTS) {
            desk.refused(Bench.ARGUMENT, d -> d.setRight(font, 0, 9));
        }
    }

    static void p17_setRight_from0And9999() {
        Bench desk = new Bench();
        desk.is(0, d -> d.setRight(0, 0, 9999));
        desk.is(0, d -> d.setRight(1, 9999, 9999));
        desk.is(0, d -> d.withdraw(1));
    }

    static void p17_setRight_fromBelow0AndAbove9999IsRefused() {
        Bench desk = Bench.atWork();
        for (int from : new int[] {-1, 10000, Bench.LEAST, Bench.MOST}) {
            desk.refused(Bench.ARGUMENT, d -> d.setRight(0, from, 9999));
            desk.refused(Bench.ARGUMENT, d -> d.setRight(0, from, from));
            desk.refused(Bench.ARGUMENT, d -> d.setRight(3, from, 0));
        }
    }

    static void p17_setRight_toIsFromAndTo9999() {
        Bench desk = new Bench();
        desk.is(0, d -> d.setRight(0, 0, 0));
        desk.is(0, d -> d.setRight(1, 5, 5));
        desk.is(0, d -> d.setRight(2, 0, 9999));
        desk.is(true, d -> d.mayUse(0));
        desk.is(true, d -> d.mayUse(2));
    }

    static void p17_setRight_toBelowFromAndAbove9999IsRefused() {
        Bench desk = Bench.atWork();
        int[][] wrong = {{0, -1}, {5, 4}, {9999, 9998}, {0, 10000}, {9999, 10000}, {0, Bench.LEAST},
            {0, Bench.MOST}, {9999, 0}};
        for (int[] days : wrong) {
            desk.refused(Bench.ARGUMENT, d -> d.setRight(0, days[0], days[1]));
            desk.refused(Bench.ARGUMENT, d -> d.setRight(3, days[0], days[1]));
        }
    }

    static void p17_setRight_todayIsItsFirstAndItsLastDay() {
        Bench desk = new Bench();
        desk.does(d -> d.pass(5));
        desk.is(0, d -> d.setRight(3, 5, 5));
        desk.is(true, d -> d.mayUse(3));
    }

    static void p17_setRight_todayIsJustAheadOfItAndJustBehind() {
        Bench desk = new Bench();
        desk.does(d -> d.pass(5));
        desk.is(0, d -> d.setRight(3, 6, 9999));
        desk.is(false, d -> d.mayUse(3));
        desk.is(0, d -> d.setRight(3, 0, 4));
        desk.is(false, d -> d.mayUse(3));
    }

    static void p17_setRight_takesThePlaceOfALongerOne() {
        Bench desk = new Bench();
        desk.does(d -> d.setRight(3, 0, 9));
        desk.does(d -> d.setRight(3, 0, 1));
        desk.does(d -> d.pass(1));
        desk.is(true, d -> d.mayUse(3));
        desk.does(d -> d.pass(1));
        desk.is(false, d -> d.mayUse(3));
    }

    static void p17_setRight_takesThePlaceOfOneThatHasEnded() {
        Bench desk = new Bench();
        desk.does(d -> d.setRight(3, 0, 0));
        desk.does(d -> d.pass(1));
        desk.is(0, d -> d.setRight(3, 0, 1));
        desk.is(true, d -> d.mayUse(3));
    }

    static void p17_setRight_sendsNoneBackIfItHoldsToday() {
        Bench desk = threeReadySheets(9, 9);
        desk.is(0, d -> d.setRight(0, 0, 0));
        readyAre(desk, true, true, true);
        desk.is(2, d -> d.pass(1));
    }

    static void p17_setRight_sendsBackOneTwoAndNoSheet() {
        Bench desk = threeReadySheets(9, 9);
        desk.is(0, d -> d.setRight(6, 1, 1));
        desk.is(1, d -> d.setRight(7, 1, 1));
        readyAre(desk, false, true, true);
        desk.is(1, d -> d.setRight(0, 1, 1));
        readyAre(desk, false, false, true);
        desk = threeReadySheets(9, 9);
        desk.is(2, d -> d.setRight(0, 1, 1));
        readyAre(desk, false, false, true);
        desk.is(0, d -> d.setRight(0, 1, 1));
        desk.is(0, d -> d.setRight(7, 1, 1));
    }

    static void p17_setRight_sendsBackTheLastSheetWithOnePage() {
        Bench desk = Bench.withPages(5, 0, 0);
        desk.does(d -> d.setRight(7, 0, 0));
        desk.does(d -> d.edit(4, 128, 0));
        desk.is(1, d -> d.setRight(7, 1, 1));
        readyAre(desk, true, false);
    }

    static void p17_setRight_thatEndsTodayIsARightStill() {
        Bench desk = new Bench();
        desk.does(d -> d.setRight(0, 0, 0));
        desk.does(d -> d.pass(1));
        desk.is(0, d -> d.withdraw(0));
        desk.refused(Bench.STATE, d -> d.withdraw(0));
    }

    // ---- Promise 18: withdraw

    static void p18_withdraw_font0And7() {
        Bench desk = threeReadySheets(9, 9);
        desk.is(2, d -> d.withdraw(0));
        desk.is(false, d -> d.mayUse(0));
        desk.is(true, d -> d.mayUse(7));
        desk.is(0, d -> d.withdraw(7));
        desk.is(false, d -> d.mayUse(7));
    }

    static void p18_withdraw_fontBelow0AndAbove7IsRefused() {
        Bench desk = Bench.atWork();
        for (int font : NO_FONTS) {
            desk.refused(Bench.ARGUMENT, d -> d.withdraw(font));
        }
    }

    static void p18_withdraw_noRightYet() {
        Bench desk = Bench.atWork();
        for (int font = 3; font < 8; font++) {
            int one = font;
            desk.refused(Bench.STATE, d -> d.withdraw(one));
        }
    }

    static void p18_withdraw_noRightAnyMore() {
        Bench desk = Bench.atWork();
        desk.does(d -> d.withdraw(0));
        desk.refused(Bench.STATE, d -> d.withdraw(0));
    }

    static void p18_withdraw_aRightThatHasNotBegunAndOneThatHasEnded() {
        Bench desk = new Bench();
        desk.does(d -> d.setRight(0, 0, 0));
        desk.does(d -> d.setRight(1, 2, 2));
        desk.does(d -> d.pass(1));
        desk.is(0, d -> d.withdraw(0));
        desk.is(0, d -> d.withdraw(1));
        desk.does(d -> d.pass(1));
        desk.is(false, d -> d.mayUse(1));
        desk.refused(Bench.STATE, d -> d.withdraw(0));
        desk.refused(Bench.STATE, d -> d.withdraw(1));
    }

    static void p18_withdraw_onTheLastDayOfTheRight() {
        Bench desk = threeReadySheets(3, 9);
        desk.does(d -> d.pass(3));
        desk.is(2, d -> d.withdraw(0));
        readyAre(desk, false, false, true);
    }

    static void p18_withdraw_onTheDayBehindTheRight() {
        Bench desk = threeReadySheets(3, 9);
        desk.is(2, d -> d.pass(4));
        desk.is(0, d -> d.withdraw(0));
    }

    static void p18_withdraw_aFontThatNoPageUses() {
        Bench desk = threeReadySheets(9, 9);
        desk.does(d -> d.setRight(3, 0, 9));
        desk.is(0, d -> d.withdraw(3));
        readyAre(desk, true, true, true);
    }

    static void p18_withdraw_withoutPages() {
        Bench desk = new Bench();
        desk.does(d -> d.setRight(3, 0, 9));
        desk.is(0, d -> d.withdraw(3));
    }

    // ---- Promise 19: pass, "days: 1 to 100"

    static void p19_pass_1And100Days() {
        Bench desk = new Bench();
        desk.is(0, d -> d.pass(1));
        desk.is(1, d -> d.today());
        desk.is(0, d -> d.pass(100));
        desk.is(101, d -> d.today());
    }

    static void p19_pass_below1AndAbove100IsRefused() {
        Bench desk = Bench.atWork();
        for (int days : new int[] {0, -1, 101, Bench.LEAST, Bench.MOST}) {
            desk.refused(Bench.ARGUMENT, d -> d.pass(days));
        }
    }

    static void p19_pass_toTheLastDayOfARightAndToTheNext() {
        Bench desk = threeReadySheets(3, 4);
        desk.is(0, d -> d.pass(3));
        readyAre(desk, true, true, true);
        desk.is(2, d -> d.pass(1));
        readyAre(desk, false, false, true);
        desk.is(0, d -> d.pass(1));
    }

    static void p19_pass_aRightEndsWithTheFirstOfTheDaysOrTheLast() {
        Bench first = threeReadySheets(0, 200);
        first.is(2, d -> d.pass(100));
        Bench last = threeReadySheets(99, 200);
        last.is(2, d -> d.pass(100));
        Bench behind = threeReadySheets(100, 200);
        behind.is(0, d -> d.pass(100));
        behind.is(2, d -> d.pass(1));
    }

    static void p19_pass_aSheetThatLosesTwoFontsIsSentBackOnce() {
        Bench desk = threeReadySheets(1, 3);
        desk.is(2, d -> d.pass(10));
        readyAre(desk, false, false, true);
    }

    static void p19_pass_aRightThatBeginsWithTheFirstDayOrTheLast() {
        Bench desk = new Bench();
        desk.does(d -> d.setRight(0, 1, 200));
        desk.does(d -> d.setRight(1, 100, 200));
        desk.does(d -> d.setRight(2, 101, 200));
        desk.is(0, d -> d.pass(100));
        desk.is(true, d -> d.mayUse(0));
        desk.is(true, d -> d.mayUse(1));
        desk.is(false, d -> d.mayUse(2));
        desk.is(0, d -> d.pass(1));
        desk.is(true, d -> d.mayUse(2));
    }

    static void p19_pass_aRightThatBeginsAndEndsOnTheWay() {
        Bench desk = Bench.withPages(1, 1, 0);
        desk.does(d -> d.setRight(0, 2, 3));
        desk.is(0, d -> d.pass(4));
        desk.is(false, d -> d.mayUse(0));
        desk.is(false, d -> d.isReady(0));
    }

    static void p19_pass_aSheetThatBecomesReadyIsNotSentBack() {
        Bench desk = Bench.withPages(1, 1, 0);
        desk.does(d -> d.setRight(0, 1, 1));
        desk.is(false, d -> d.isReady(0));
        desk.is(0, d -> d.pass(1));
        desk.is(true, d -> d.isReady(0));
        desk.is(1, d -> d.pass(1));
        desk.is(false, d -> d.isReady(0));
    }

    static void p19_pass_withoutPages() {
        Bench desk = new Bench();
        desk.does(d -> d.setRight(0, 0, 0));
        desk.is(0, d -> d.pass(1));
        desk.is(false, d -> d.mayUse(0));
    }

    // ---- Promise 20: today

    static void p20_today_0AtFirstAndTheSumOfTheDaysThatPass() {
        Bench desk = new Bench();
        desk.is(0, d -> d.today());
        int sum = 0;
        for (int days : new int[] {1, 100, 99, 2}) {
            desk.does(d -> d.pass(days));
            sum += days;
            int want = sum;
            desk.is(want, d -> d.today());
        }
    }

    static void p20_today_goesBeyondTheLastDayOfRights() {
        Bench desk = new Bench();
        for (int call = 0; call < 101; call++) {
            desk.does(d -> d.pass(100));
        }
        desk.is(10100, d -> d.today());
    }

    // ---- Promise 21: mayUse

    static void p21_mayUse_font0And7() {
        Bench desk = new Bench();
        desk.does(d -> d.setRight(0, 0, 0));
        desk.is(true, d -> d.mayUse(0));
        desk.is(false, d -> d.mayUse(7));
        desk.does(d -> d.setRight(7, 0, 0));
        desk.is(true, d -> d.mayUse(7));
    }

    static void p21_mayUse_fontBelow0AndAbove7IsRefused() {
        Bench desk = Bench.atWork();
        for (int font : NO_FONTS) {
            desk.refused(Bench.ARGUMENT, d -> d.mayUse(font));
        }
    }

    static void p21_mayUse_onTheDaysAtBothEndsOfTheRight() {
        Bench desk = new Bench();
        desk.does(d -> d.setRight(4, 1, 2));
        boolean[] may = {false, true, true, false};
        for (boolean want : may) {
            desk.is(want, d -> d.mayUse(4));
            desk.does(d -> d.pass(1));
        }
    }

    static void p21_mayUse_onceTheRightIsWithdrawn() {
        Bench desk = new Bench();
        desk.does(d -> d.setRight(4, 0, 9999));
        desk.does(d -> d.withdraw(4));
        desk.is(false, d -> d.mayUse(4));
        desk.does(d -> d.setRight(4, 0, 0));
        desk.is(true, d -> d.mayUse(4));
    }
}
