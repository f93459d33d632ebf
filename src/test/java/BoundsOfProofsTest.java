/** The boundary cases of the promises 22 to 25: proofs, and sheets that are ready. */
public final class BoundsOfProofsTest {
    private static final int[] NO_PLACES_OF_NINE = {-1, 9, 64, Bench.LEAST, Bench.MOST};
    private static final int[] NO_COLORS = {-1, 4, 32, 33, Bench.LEAST, Bench.MOST};

    public static void main(String[] args) {
        Cases.run(BoundsOfProofsTest.class);
    }

    // ---- Promise 22: prove

    static void p22_prove_theFirstAndTheLastPage() {
        Bench desk = Bench.withPages(3, 0, 1);
        desk.is(1, d -> d.prove(0, 0));
        desk.is(1, d -> d.prove(2, 0));
        desk.is(ProofSheet.NONE, d -> d.proof(1, 0));
        desk.is(ProofSheet.MADE, d -> d.proof(2, 0));
    }

    static void p22_prove_thePage64() {
        Bench desk = Bench.withPages(64, 0, 8);
        desk.is(1, d -> d.prove(63, 3));
        desk.is(ProofSheet.MADE, d -> d.proof(63, 3));
        desk.refused(Bench.INDEX, d -> d.prove(64, 3));
    }

    static void p22_prove_noSuchPage() {
        Bench desk = Bench.atWork();
        for (int place : NO_PLACES_OF_NINE) {
            desk.refused(Bench.INDEX, d -> d.prove(place, 0));
        }
    }

    static void p22_prove_color0And3() {
        Bench desk = Bench.withPages(1, 0, 9);
        desk.is(1, d -> d.prove(0, 0));
        desk.is(2, d -> d.prove(0, 3));
    }

    static void p22_prove_colorBelow0AndAbove3IsRefused() {
        Bench desk = Bench.atWork();
        for (int color : NO_COLORS) {
            desk.refused(Bench.ARGUMENT, d -> d.prove(4, color));
        }
    }

    static void p22_prove_answers1To4() {
        Bench desk = Bench.withPages(1, 0, 15);
        for (int color = 3; color >= 0; color--) {
            int one = color;
            desk.is(4 - one, d -> d.prove(0, one));
        }
    }

    static void p22_prove_countsApprovedOnesButNoRefusedOnes() {
        Bench desk = Bench.withPages(1, 0, 7);
        desk.approve(0, 0);
        desk.is(2, d -> d.prove(0, 1));
        desk.does(d -> d.judge(0, 1, false));
        desk.is(2, d -> d.prove(0, 2));
        desk.is(3, d -> d.prove(0, 1));
    }

    static void p22_prove_aColorThatThePageDoesNotUse() {
        Bench desk = Bench.atWork();
        desk.refused(Bench.STATE, d -> d.prove(1, 2));
        desk.refused(Bench.STATE, d -> d.prove(7, 0));
        desk.refused(Bench.STATE, d -> d.prove(6, 3));
    }

    static void p22_prove_aFontWithoutARight() {
        Bench desk = Bench.withPages(1, 128, 1);
        desk.refused(Bench.STATE, d -> d.prove(0, 0));
        desk.does(d -> d.setRight(7, 0, 0));
        desk.is(1, d -> d.prove(0, 0));
    }

    static void p22_prove_aFontOnTheDaysAtBothEndsOfItsRight() {
        Bench desk = Bench.withPages(2, 1, 1);
        desk.does(d -> d.setRight(0, 1, 2));
        desk.refused(Bench.STATE, d -> d.prove(0, 0));
        desk.does(d -> d.pass(1));
        desk.is(1, d -> d.prove(0, 0));
        desk.does(d -> d.pass(1));
        desk.is(1, d -> d.prove(1, 0));
        desk.does(d -> d.pass(1));
        desk.is(ProofSheet.NONE, d -> d.proof(0, 0));
        desk.refused(Bench.STATE, d -> d.prove(0, 0));
    }

    static void p22_prove_oneFontOfEightMayNotBeUsed() {
        for (int missing = 0; missing < 8; missing++) {
            int without = missing;
            Bench desk = Bench.withPages(1, 255, 1);
            for (int font = 0; font < 8; font++) {
                int one = font;
                desk.does(d -> d.setRight(one, one == without ? 1 : 0, 9));
            }
            desk.refused(Bench.STATE, d -> d.prove(0, 0));
            desk.does(d -> d.setRight(without, 0, 9));
            desk.is(1, d -> d.prove(0, 0));
        }
    }

    static void p22_prove_aProofThatIsMade() {
        Bench desk = Bench.atWork();
        desk.refused(Bench.STATE, d -> d.prove(4, 1));
    }

    static void p22_prove_aProofThatIsApproved() {
        Bench desk = Bench.atWork();
        desk.refused(Bench.STATE, d -> d.prove(4, 0));
        desk.refused(Bench.STATE, d -> d.prove(0, 0));
    }

    static void p22_prove_aProofThatIsRefusedAndOneThatIsNone() {
        Bench desk = Bench.atWork();
        desk.is(3, d -> d.prove(4, 2));
        desk.is(ProofSheet.MADE, d -> d.proof(4, 2));
        desk.is(4, d -> d.prove(4, 3));
        desk.is(ProofSheet.MADE, d -> d.proof(4, 3));
    }

    static void p22_prove_placeIsLookedAtAheadOfTheColor() {
        Bench desk = Bench.atWork();
        desk.refused(Bench.INDEX, d -> d.prove(9, 4));
        desk.refused(Bench.INDEX, d -> d.prove(-1, -1));
    }

    static void p22_prove_colorIsLookedAtAheadOfThePage() {
        Bench desk = Bench.withPages(1, 255, 0);
        desk.refused(Bench.ARGUMENT, d -> d.prove(0, 4));
        desk.refused(Bench.ARGUMENT, d -> d.prove(0, -1));
    }

    // ---- Promise 23: judge

    static void p23_judge_theFirstAndTheLastPage() {
        Bench desk = Bench.withPages(3, 0, 1);
        desk.does(d -> d.prove(0, 0));
        desk.does(d -> d.prove(2, 0));
        desk.is(true, d -> d.judge(0, 0, true));
        desk.is(false, d -> d.judge(2, 0, false));
        desk.is(ProofSheet.APPROVED, d -> d.proof(0, 0));
        desk.is(ProofSheet.REFUSED, d -> d.proof(2, 0));
    }

    static void p23_judge_thePage64() {
        Bench desk = Bench.withPages(64, 0, 8);
        desk.does(d -> d.prove(63, 3));
        desk.is(true, d -> d.judge(63, 3, true));
        desk.refused(Bench.INDEX, d -> d.judge(64, 3, true));
    }

    static void p23_judge_noSuchPage() {
        Bench desk = Bench.atWork();
        for (int place : NO_PLACES_OF_NINE) {
            desk.refused(Bench.INDEX, d -> d.judge(place, 1, true));
            desk.refused(Bench.INDEX, d -> d.judge(place, 1, false));
        }
    }

    static void p23_judge_colorBelow0AndAbove3IsRefused() {
        Bench desk = Bench.atWork();
        for (int color : NO_COLORS) {
            desk.refused(Bench.ARGUMENT, d -> d.judge(4, color, true));
            desk.refused(Bench.ARGUMENT, d -> d.judge(4, color, false));
        }
    }

    static void p23_judge_aProofThatIsNoneOrRefusedOrApproved() {
        Bench desk = Bench.atWork();
        for (int color : new int[] {0, 2, 3}) {
            desk.refused(Bench.STATE, d -> d.judge(4, color, true));
            desk.refused(Bench.STATE, d -> d.judge(4, color, false));
        }
    }

    static void p23_judge_aColorThatThePageDoesNotUse() {
        Bench desk = Bench.atWork();
        desk.refused(Bench.STATE, d -> d.judge(7, 0, true));
        desk.refused(Bench.STATE, d -> d.judge(6, 3, false));
    }

    static void p23_judge_aProofThatIsMadeIsJudgedOnce() {
        Bench desk = Bench.withPages(1, 0, 2);
        desk.does(d -> d.prove(0, 1));
        desk.is(false, d -> d.judge(0, 1, false));
        desk.refused(Bench.STATE, d -> d.judge(0, 1, true));
        desk.does(d -> d.prove(0, 1));
        desk.is(true, d -> d.judge(0, 1, true));
        desk.refused(Bench.STATE, d -> d.judge(0, 1, false));
    }

    static void p23_judge_aProofThatBecameNone() {
        Bench desk = Bench.withPages(2, 1, 1);
        desk.does(d -> d.setRight(0, 0, 0));
        desk.does(d -> d.prove(0, 0));
        desk.does(d -> d.prove(1, 0));
        desk.does(d -> d.edit(1, 0, 1));
        desk.refused(Bench.STATE, d -> d.judge(1, 0, true));
        desk.does(d -> d.pass(1));
        desk.refused(Bench.STATE, d -> d.judge(0, 0, true));
    }

    static void p23_judge_onlyTheLastOfFourFinishesThePage() {
        Bench desk = Bench.withPages(1, 0, 15);
        for (int color = 0; color < 4; color++) {
            int one = color;
            desk.does(d -> d.prove(0, one));
        }
        for (int color = 0; color < 4; color++) {
            int one = color;
            desk.is(one == 3, d -> d.judge(0, one, true));
        }
    }

    static void p23_judge_theLastOneRefusedDoesNot() {
        Bench desk = Bench.withPages(1, 0, 3);
        desk.approve(0, 0);
        desk.does(d -> d.prove(0, 1));
        desk.is(false, d -> d.judge(0, 1, false));
    }

    static void p23_judge_aRefusedOneAmongApprovedOnes() {
        Bench desk = Bench.withPages(1, 0, 7);
        desk.does(d -> d.prove(0, 0));
        desk.does(d -> d.judge(0, 0, false));
        desk.approve(0, 1);
        desk.does(d -> d.prove(0, 2));
        desk.is(false, d -> d.judge(0, 2, true));
    }

    static void p23_judge_placeIsLookedAtAheadOfTheColor() {
        Bench desk = Bench.atWork();
        desk.refused(Bench.INDEX, d -> d.judge(9, 4, true));
        desk.refused(Bench.INDEX, d -> d.judge(-1, -1, false));
    }

    static void p23_judge_colorIsLookedAtAheadOfTheProof() {
        Bench desk = Bench.withPages(1, 0, 0);
        desk.refused(Bench.ARGUMENT, d -> d.judge(0, 4, true));
        desk.refused(Bench.ARGUMENT, d -> d.judge(0, -1, false));
    }

    // ---- Promise 24: proof

    static void p24_proof_eachAnswer() {
        Bench desk = Bench.atWork();
        desk.is(ProofSheet.APPROVED, d -> d.proof(4, 0));
        desk.is(ProofSheet.MADE, d -> d.proof(4, 1));
        desk.is(ProofSheet.REFUSED, d -> d.proof(4, 2));
        desk.is(ProofSheet.NONE, d -> d.proof(4, 3));
        desk.is(-1, d -> d.proof(5, 0));
    }

    static void p24_proof_color0And3() {
        Bench desk = Bench.withPages(1, 0, 1);
        desk.does(d -> d.insert(1, 0, 8));
        desk.is(ProofSheet.NONE, d -> d.proof(0, 0));
        desk.is(-1, d -> d.proof(0, 3));
        desk.is(-1, d -> d.proof(1, 0));
        desk.is(ProofSheet.NONE, d -> d.proof(1, 3));
    }

    static void p24_proof_theFirstTheLastAndThePage64() {
        Bench desk = Bench.withPages(64, 0, 1);
        desk.approve(0, 0);
        desk.does(d -> d.prove(63, 0));
        desk.is(ProofSheet.APPROVED, d -> d.proof(0, 0));
        desk.is(ProofSheet.NONE, d -> d.proof(1, 0));
        desk.is(ProofSheet.MADE, d -> d.proof(63, 0));
        desk.refused(Bench.INDEX, d -> d.proof(64, 0));
    }

    static void p24_proof_noSuchPage() {
        Bench desk = Bench.atWork();
        for (int place : NO_PLACES_OF_NINE) {
            desk.refused(Bench.INDEX, d -> d.proof(place, 0));
        }
    }

    static void p24_proof_colorBelow0AndAbove3IsRefused() {
        Bench desk = Bench.atWork();
        for (int color : NO_COLORS) {
            desk.refused(Bench.ARGUMENT, d -> d.proof(0, color));
            desk.refused(Bench.ARGUMENT, d -> d.proof(5, color));
        }
    }

    static void p24_proof_placeIsLookedAtAheadOfTheColor() {
        Bench desk = Bench.atWork();
        desk.refused(Bench.INDEX, d -> d.proof(9, 4));
        desk.refused(Bench.INDEX, d -> d.proof(-1, -1));
    }

    // ---- Promise 25: isReady

    static void p25_isReady_noSuchSheet() {
        Bench desk = Bench.atWork();
        for (int sheet : new int[] {-1, 3, 16, Bench.LEAST, Bench.MOST}) {
            desk.refused(Bench.INDEX, d -> d.isReady(sheet));
        }
    }

    static void p25_isReady_noSheetAtAll() {
        Bench desk = new Bench();
        desk.refused(Bench.INDEX, d -> d.isReady(0));
        desk.refused(Bench.INDEX, d -> d.isReady(-1));
    }

    static void p25_isReady_theFirstAndTheLastSheet() {
        Bench desk = Bench.atWork();
        desk.is(true, d -> d.isReady(0));
        desk.is(false, d -> d.isReady(1));
        desk.is(true, d -> d.isReady(2));
    }

    static void p25_isReady_theSheet15OfOneFold() {
        Bench desk = Bench.withPages(64, 0, 0);
        desk.is(true, d -> d.isReady(15));
        desk.does(d -> d.edit(63, 0, 1));
        desk.is(false, d -> d.isReady(15));
        desk.approve(63, 0);
        desk.is(true, d -> d.isReady(15));
        desk.refused(Bench.INDEX, d -> d.isReady(16));
    }

    static void p25_isReady_oneUnfinishedPageOf32() {
        for (int place : new int[] {0, 31}) {
            Bench desk = Bench.withPages(64, 0, 0);
            desk.does(d -> d.setFolds(4, 0));
            desk.does(d -> d.edit(place, 0, 1));
            desk.is(false, d -> d.isReady(0));
            desk.is(true, d -> d.isReady(1));
            desk.does(d -> d.move(place, 32));
            desk.does(d -> d.move(31, 0));
            desk.is(true, d -> d.isReady(0));
            desk.is(false, d -> d.isReady(1));
        }
    }

    static void p25_isReady_aProofThatIsNotApproved() {
        Bench desk = Bench.withPages(1, 0, 1);
        desk.is(false, d -> d.isReady(0));
        desk.does(d -> d.prove(0, 0));
        desk.is(false, d -> d.isReady(0));
        desk.does(d -> d.judge(0, 0, false));
        desk.is(false, d -> d.isReady(0));
        desk.approve(0, 0);
        desk.is(true, d -> d.isReady(0));
    }

    static void p25_isReady_aPageThatComesAndGoes() {
        Bench desk = Bench.withPages(1, 0, 0);
        desk.is(true, d -> d.isReady(0));
        desk.does(d -> d.insert(1, 0, 1));
        desk.is(false, d -> d.isReady(0));
        desk.does(d -> d.remove(1));
        desk.is(true, d -> d.isReady(0));
    }
}
