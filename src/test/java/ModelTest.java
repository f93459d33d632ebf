import java.util.ArrayList;
import java.util.Arrays;
import java.util.List;
import java.util.Map;
import java.util.TreeMap;

/** Long runs of calls, the same ones each time, on the class and on PlainDesk; all answers are the same. */
public final class ModelTest {
    private static final int RUNS = 3000;
    /** An object is promised for so many calls. */
    private static final int CALLS = 512;
    private static final String[] NAMES = {"insert", "remove", "move", "edit", "replace", "pages", "edition",
        "setFolds", "sheets", "rows", "columns", "pageAt", "pageByRule", "leafOf", "isTurned", "setRight", "withdraw",
        "pass", "today", "mayUse", "prove", "judge", "proof", "isReady", "makePlates", "wear", "print", "plates"};
    /** How often a call comes, in the order of the names. */
    private static final int[] WEIGHTS = {8, 2, 3, 3, 1, 1, 1, 3, 1, 1, 1, 4, 3, 3, 3, 4, 1, 2, 1, 2, 6, 6, 6, 6, 9, 10,
        9, 2};

    private static final Due due = new Due();
    private static final Map<String, Integer> outcomes = new TreeMap<>();
    private static long seed = 20261119;

    public static void main(String[] args) {
        for (int run = 0; run < RUNS; run++) {
            oneRun(run);
        }
        enoughOfAll();
        due.end();
    }

    /** A row of numbers that is the same each time. */
    private static int below(int bound) {
        seed = seed * 6364136223846793005L + 1442695040888963407L;
        return (int) ((seed >>> 33) % bound);
    }

    /** Mostly from 0 to bound - 1, now and then a little or far outside. */
    private static int about(int bound) {
        int way = below(60);
        if (way == 0) {
            return bound + below(2);
        }
        if (way == 1) {
            return -1;
        }
        if (way == 2) {
            return below(2) == 0 ? Integer.MAX_VALUE : Integer.MIN_VALUE;
        }
        return below(Math.max(bound, 1));
    }

    private static int drawnCall() {
        int sum = 0;
        for (int weight : WEIGHTS) {
            sum += weight;
        }
        int at = below(sum);
        int which = 0;
        while (at >= WEIGHTS[which]) {
            at -= WEIGHTS[which];
            which++;
        }
        return which;
    }

    private static void oneRun(int run) {
        ProofSheet desk = new ProofSheet();
        PlainDesk plain = new PlainDesk();
        List<String> told = new ArrayList<>();
        int fullness = 2 + below(62);
        int colorsOften = below(3);
        for (int call = 0; call < CALLS; call++) {
            int[] next = nextCall(plain, fullness, colorsOften);
            String what = NAMES[next[0]] + Arrays.toString(next);
            String want = outcome(() -> onPlain(plain, next));
            String got = outcome(() -> onDesk(desk, next));
            told.add(what + " = " + want);
            count(NAMES[next[0]], want);
            if (!got.equals(want)) {
                due.tell("run " + run + ", call " + call + ": " + what + " answered " + got + ", due is " + want
                        + ", behind " + told.subList(Math.max(0, call - 6), call));
                return;
            }
        }
    }

    /** A call's number and its arguments; often one that brings a sheet nearer to its plates. */
    private static int[] nextCall(PlainDesk plain, int fullness, int colorsOften) {
        int many = plain.pages();
        if (many < fullness && below(4) == 0) {
            return new int[] {0, below(many + 1), drawnFonts(), drawnColors(colorsOften)};
        }
        if (many > 0 && below(2) == 0) {
            int[] work = towardsReady(plain);
            if (work != null) {
                return work;
            }
        }
        if (many > 0 && below(2) == 0) {
            int sheet = below(plain.sheets());
            if (plain.isReady(sheet)) {
                return onReadySheet(sheet);
            }
        }
        return drawn(drawnCall(), plain, colorsOften);
    }

    private static int[] onReadySheet(int sheet) {
        switch (below(4)) {
            case 0:
                return new int[] {24, sheet};
            case 1:
                return new int[] {26, sheet, 1 + below(below(2) == 0 ? 500 : 50)};
            default:
                return new int[] {25, sheet, below(2), below(4)};
        }
    }

    private static int[] towardsReady(PlainDesk plain) {
        int sheet = below(plain.sheets());
        int pagesOfSheet = 2 * plain.rows() * plain.columns();
        int first = sheet * pagesOfSheet;
        for (int place = first; place < plain.pages() && place < first + pagesOfSheet; place++) {
            int missing = plain.missingFont(place);
            if (missing >= 0 && below(10) > 0) {
                int from = Math.max(0, plain.today() - below(3));
                return new int[] {15, missing, from, plain.today() + below(30)};
            }
            for (int color = 0; color < 4; color++) {
                int proof = plain.proof(place, color);
                if (proof == ProofSheet.MADE) {
                    return new int[] {21, place, color, below(12) == 0 ? 0 : 1};
                }
                if (proof == ProofSheet.NONE || proof == ProofSheet.REFUSED) {
                    return new int[] {20, place, color};
                }
            }
        }
        return null;
    }

    private static int drawnFonts() {
        return below(2) == 0 ? 0 : below(3) == 0 ? about(256) : 1 << below(8);
    }

    private static int drawnColors(int often) {
        if (often == 0) {
            return below(3) == 0 ? 1 << below(4) : 0;
        }
        return often == 1 ? 1 << below(4) : about(16);
    }

    private static int[] drawn(int which, PlainDesk plain, int colorsOften) {
        int page = about(plain.pages());
        int sheet = about(plain.sheets());
        switch (NAMES[which]) {
            case "insert":
                return new int[] {which, about(plain.pages() + 1), drawnFonts(), drawnColors(colorsOften)};
            case "move":
                return new int[] {which, page, about(plain.pages())};
            case "edit":
                return new int[] {which, page, drawnFonts(), drawnColors(colorsOften)};
            case "replace":
                return new int[] {which, about(8), about(8)};
            case "setFolds":
                int folds = below(40) == 0 ? about(5) : 1 + below(below(4) + 1);
                return new int[] {which, folds, about(folds < 0 || folds > 4 ? 1 : (int) Math.pow(4, folds))};
            case "pageAt":
            case "pageByRule":
                return new int[] {which, sheet, about(2), about(plain.rows()), about(plain.columns())};
            case "setRight":
                return drawnRight(which, plain.today());
            case "withdraw":
            case "mayUse":
                return new int[] {which, about(8)};
            case "pass":
                return new int[] {which, below(5) == 0 ? about(101) : 1 + below(4)};
            case "prove":
            case "proof":
                return new int[] {which, page, about(4)};
            case "judge":
                return new int[] {which, page, about(4), below(2)};
            case "wear":
                return new int[] {which, sheet, about(2), about(4)};
            case "print":
                return new int[] {which, sheet, below(3) == 0 ? about(501) : 1 + below(500)};
            case "isReady":
            case "makePlates":
                return new int[] {which, sheet};
            default:
                return new int[] {which, page};
        }
    }

    private static int[] drawnRight(int which, int today) {
        if (below(8) == 0) {
            return new int[] {which, about(8), about(10000), about(10000)};
        }
        int from = Math.max(0, today - below(3) + (below(4) == 0 ? 2 : 0));
        return new int[] {which, about(8), from, from + below(40)};
    }

    private static String outcome(Due.Call call) {
        try {
            return Long.toString(call.answer());
        } catch (RuntimeException e) {
            return e.getClass().getSimpleName();
        }
    }

    private static void count(String name, String want) {
        boolean answered = want.charAt(0) == '-' || Character.isDigit(want.charAt(0));
        outcomes.merge(name + " " + (answered ? "answers" : want), 1, Integer::sum);
        if (answered && !want.equals("0") && !want.equals("-1")) {
            outcomes.merge(name + " answers more than 0", 1, Integer::sum);
        }
    }

    /** The runs are worth something only if they come to every answer and refusal. */
    private static void enoughOfAll() {
        for (String name : NAMES) {
            atLeast(name + " answers", 1000);
            if (!name.equals("move")) {
                atLeast(name + " answers more than 0", 100);
            }
        }
        String index = " IndexOutOfBoundsException";
        String argument = " IllegalArgumentException";
        String state = " IllegalStateException";
        for (String name : List.of("insert", "remove", "move", "edit", "edition", "pageAt", "pageByRule", "leafOf",
                "isTurned", "prove", "judge", "proof", "isReady", "makePlates", "wear", "print")) {
            atLeast(name + index, 100);
        }
        for (String name : List.of("insert", "edit", "replace", "setFolds", "pageAt", "pageByRule", "setRight",
                "withdraw", "pass", "mayUse", "prove", "judge", "proof", "wear", "print")) {
            atLeast(name + argument, 100);
        }
        for (String name : List.of("insert", "withdraw", "prove", "judge", "makePlates", "print")) {
            atLeast(name + state, 100);
        }
    }

    private static void atLeast(String outcome, int least) {
        int many = outcomes.getOrDefault(outcome, 0);
        if (many < least) {
            due.tell("only " + many + " times: " + outcome);
        }
    }

    private static long onDesk(ProofSheet desk, int[] c) {
        switch (NAMES[c[0]]) {
            case "insert": return desk.insert(c[1], c[2], c[3]);
            case "remove": return desk.remove(c[1]);
            case "move": desk.move(c[1], c[2]); return 0;
            case "edit": return desk.edit(c[1], c[2], c[3]);
            case "replace": return desk.replace(c[1], c[2]);
            case "pages": return desk.pages();
            case "edition": return desk.edition(c[1]);
            case "setFolds": return desk.setFolds(c[1], c[2]);
            case "sheets": return desk.sheets();
            case "rows": return desk.rows();
            case "columns": return desk.columns();
            case "pageAt": return desk.pageAt(c[1], c[2], c[3], c[4]);
            case "pageByRule": return desk.pageByRule(c[1], c[2], c[3], c[4]);
            case "leafOf": return desk.leafOf(c[1]);
            case "isTurned": return Due.bit(desk.isTurned(c[1]));
            case "setRight": return desk.setRight(c[1], c[2], c[3]);
            case "withdraw": return desk.withdraw(c[1]);
            case "pass": return desk.pass(c[1]);
            case "today": return desk.today();
            case "mayUse": return Due.bit(desk.mayUse(c[1]));
            case "prove": return desk.prove(c[1], c[2]);
            case "judge": return Due.bit(desk.judge(c[1], c[2], c[3] == 1));
            case "proof": return desk.proof(c[1], c[2]);
            case "isReady": return Due.bit(desk.isReady(c[1]));
            case "makePlates": return desk.makePlates(c[1]);
            case "wear": return desk.wear(c[1], c[2], c[3]);
            case "print": return desk.print(c[1], c[2]);
            default: return desk.plates();
        }
    }

    private static long onPlain(PlainDesk desk, int[] c) {
        switch (NAMES[c[0]]) {
            case "insert": return desk.insert(c[1], c[2], c[3]);
            case "remove": return desk.remove(c[1]);
            case "move": desk.move(c[1], c[2]); return 0;
            case "edit": return desk.edit(c[1], c[2], c[3]);
            case "replace": return desk.replace(c[1], c[2]);
            case "pages": return desk.pages();
            case "edition": return desk.edition(c[1]);
            case "setFolds": return desk.setFolds(c[1], c[2]);
            case "sheets": return desk.sheets();
            case "rows": return desk.rows();
            case "columns": return desk.columns();
            case "pageAt": return desk.pageAt(c[1], c[2], c[3], c[4]);
            case "pageByRule": return desk.pageAt(c[1], c[2], c[3], c[4]);
            case "leafOf": return desk.leafOf(c[1]);
            case "isTurned": return Due.bit(desk.isTurned(c[1]));
            case "setRight": return desk.setRight(c[1], c[2], c[3]);
            case "withdraw": return desk.withdraw(c[1]);
            case "pass": return desk.pass(c[1]);
            case "today": return desk.today();
            case "mayUse": return Due.bit(desk.mayUse(c[1]));
            case "prove": return desk.prove(c[1], c[2]);
            case "judge": return Due.bit(desk.judge(c[1], c[2], c[3] == 1));
            case "proof": return desk.proof(c[1], c[2]);
            case "isReady": return Due.bit(desk.isReady(c[1]));
            case "makePlates": return desk.makePlates(c[1]);
            case "wear": return desk.wear(c[1], c[2], c[3]);
            case "print": return desk.print(c[1], c[2]);
            default: return desk.plates();
        }
    }
}
