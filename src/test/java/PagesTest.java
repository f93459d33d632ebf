/** Promises 1 to 8: a new object, and the pages. */
public final class PagesTest {
    private static final Due due = new Due();

    public static void main(String[] args) {
        newObject();
        insert();
        insertRefuses();
        insertHasLimits();
        remove();
        move();
        edit();
        replace();
        pages();
        edition();
        due.end();
    }

    /** Pages are told from one another by their colours: page k uses the colours k + 1. */
    private static ProofSheet deskOfColors(int pages) {
        ProofSheet desk = new ProofSheet();
        for (int page = 0; page < pages; page++) {
            desk.insert(page, 0, page + 1);
        }
        return desk;
    }

    private static void order(String what, ProofSheet desk, int... colors) {
        due.answers(what + ": pages()", colors.length, () -> desk.pages());
        for (int place = 0; place < colors.length; place++) {
            for (int color = 0; color < 4; color++) {
                int at = place;
                int of = color;
                long want = (colors[place] >> color & 1) == 1 ? ProofSheet.NONE : -1;
                due.answers(what + ": proof(" + at + ", " + of + ")", want, () -> desk.proof(at, of));
            }
        }
    }

    private static void newObject() {
        ProofSheet desk = new ProofSheet();
        due.answers("1: pages()", 0, () -> desk.pages());
        due.answers("1: sheets()", 0, () -> desk.sheets());
        due.answers("1: rows()", 1, () -> desk.rows());
        due.answers("1: columns()", 2, () -> desk.columns());
        due.answers("1: today()", 0, () -> desk.today());
        due.answers("1: plates()", 0, () -> desk.plates());
        for (int font = 0; font < 8; font++) {
            int one = font;
            due.answers("1: mayUse(" + one + ")", 0, () -> Due.bit(desk.mayUse(one)));
            due.refuses("1: withdraw(" + one + ")", Due.STATE, () -> desk.withdraw(one));
        }
        ProofSheet other = new ProofSheet();
        other.insert(0, 0, 0);
        due.answers("1: pages() of another desk", 0, () -> desk.pages());
    }

    private static void insert() {
        ProofSheet desk = new ProofSheet();
        due.answers("2: insert(0, 0, 1)", 1, () -> desk.insert(0, 0, 1));
        due.answers("2: insert at the end", 2, () -> desk.insert(1, 0, 2));
        due.answers("2: insert in the middle", 3, () -> desk.insert(1, 0, 4));
        due.answers("2: insert at the start", 4, () -> desk.insert(0, 255, 15));
        order("2", desk, 15, 1, 4, 2);
        due.answers("2: its edition", 1, () -> desk.edition(0));
    }

    private static void insertRefuses() {
        ProofSheet desk = deskOfColors(2);
        due.refuses("2: place -1", Due.INDEX, () -> desk.insert(-1, 0, 0));
        due.refuses("2: place 3", Due.INDEX, () -> desk.insert(3, 0, 0));
        due.refuses("2: place least", Due.INDEX, () -> desk.insert(Integer.MIN_VALUE, 256, 16));
        due.refuses("2: place most", Due.INDEX, () -> desk.insert(Integer.MAX_VALUE, -1, -1));
        due.refuses("2: fonts -1", Due.ARGUMENT, () -> desk.insert(0, -1, 0));
        due.refuses("2: fonts 256", Due.ARGUMENT, () -> desk.insert(0, 256, 0));
        due.refuses("2: colors -1", Due.ARGUMENT, () -> desk.insert(0, 0, -1));
        due.refuses("2: colors 16", Due.ARGUMENT, () -> desk.insert(2, 0, 16));
        order("2: nothing is changed", desk, 1, 2);
    }

    private static void insertHasLimits() {
        ProofSheet desk = Due.deskWith(63, 0);
        due.answers("2: the page 64", 64, () -> desk.insert(63, 0, 0));
        due.refuses("2: the page 65", Due.STATE, () -> desk.insert(0, 0, 0));
        due.refuses("2: the page 65 at the end", Due.STATE, () -> desk.insert(64, 0, 0));
        due.refuses("2: place 65 of 64", Due.INDEX, () -> desk.insert(65, 0, 0));
        due.refuses("2: fonts with 64 pages", Due.ARGUMENT, () -> desk.insert(0, 256, 0));
        for (int page = 64; page < 100; page++) {
            int many = page;
            desk.remove(0);
            due.answers("2: insert behind " + many + " made", 64, () -> desk.insert(0, 0, 0));
        }
        desk.remove(0);
        due.refuses("2: the page 101 that is made", Due.STATE, () -> desk.insert(0, 0, 0));
        due.refuses("2: place 64 of 63", Due.INDEX, () -> desk.insert(64, 0, 0));
        due.refuses("2: colors with 100 made", Due.ARGUMENT, () -> desk.insert(0, 0, 16));
        due.answers("2: pages() then", 63, () -> desk.pages());
    }

    private static void remove() {
        ProofSheet desk = deskOfColors(4);
        due.refuses("3: place -1", Due.INDEX, () -> desk.remove(-1));
        due.refuses("3: place 4", Due.INDEX, () -> desk.remove(4));
        due.answers("3: remove in the middle", 3, () -> desk.remove(1));
        order("3: those behind move up", desk, 1, 3, 4);
        due.answers("3: remove the last", 2, () -> desk.remove(2));
        due.answers("3: remove the first", 1, () -> desk.remove(0));
        order("3: what is left", desk, 3);
        due.answers("3: remove all", 0, () -> desk.remove(0));
        due.refuses("3: remove from none", Due.INDEX, () -> desk.remove(0));
    }

    private static void move() {
        ProofSheet desk = deskOfColors(5);
        desk.edit(1, 0, 2);
        desk.move(1, 3);
        order("4: on", desk, 1, 3, 4, 2, 5);
        due.answers("4: the edition goes with it", 2, () -> desk.edition(3));
        desk.move(4, 0);
        order("4: back to the start", desk, 5, 1, 3, 4, 2);
        desk.move(0, 4);
        order("4: on to the end", desk, 1, 3, 4, 2, 5);
        desk.move(2, 2);
        order("4: to where it is", desk, 1, 3, 4, 2, 5);
        desk.prove(0, 0);
        desk.move(0, 1);
        due.answers("4: the proofs go with it", ProofSheet.MADE, () -> desk.proof(1, 0));
        int[][] wrong = {{-1, 0}, {5, 0}, {0, -1}, {0, 5}, {5, 5}, {Integer.MAX_VALUE, Integer.MIN_VALUE}};
        for (int[] pair : wrong) {
            due.refuses("4: move(" + pair[0] + ", " + pair[1] + ")", Due.INDEX, () -> {
                desk.move(pair[0], pair[1]);
                return 0;
            });
        }
        due.answers("4: pages()", 5, () -> desk.pages());
        moveInFullDesk();
    }

    private static void moveInFullDesk() {
        ProofSheet desk = Due.deskWith(63, 0);
        desk.insert(63, 0, 7);
        due.answers("4: to the start of 64", 0, () -> {
            desk.move(63, 0);
            return 0;
        });
        due.answers("4: it stands there", ProofSheet.NONE, () -> desk.proof(0, 2));
        due.answers("4: to the end of 64", 0, () -> {
            desk.move(0, 63);
            return 0;
        });
        due.answers("4: it stands there", ProofSheet.NONE, () -> desk.proof(63, 2));
        due.answers("4: not there any more", -1, () -> desk.proof(0, 2));
    }

    private static void edit() {
        ProofSheet desk = Due.deskWith(2, 3);
        desk.prove(0, 0);
        Due.approve(desk, 0, 1);
        Due.approve(desk, 1, 1);
        due.refuses("5: place -1", Due.INDEX, () -> desk.edit(-1, 256, 0));
        due.refuses("5: place 2", Due.INDEX, () -> desk.edit(2, 0, 16));
        due.refuses("5: fonts 256", Due.ARGUMENT, () -> desk.edit(0, 256, 0));
        due.refuses("5: fonts -1", Due.ARGUMENT, () -> desk.edit(0, -1, 0));
        due.refuses("5: colors 16", Due.ARGUMENT, () -> desk.edit(0, 0, 16));
        due.refuses("5: colors -1", Due.ARGUMENT, () -> desk.edit(0, 0, -1));
        due.answers("5: a refused edit leaves the proofs", ProofSheet.MADE, () -> desk.proof(0, 0));
        due.answers("5: a refused edit leaves the edition", 1, () -> desk.edition(0));
        due.answers("5: edit with the same fonts and colours", 2, () -> desk.edit(0, 0, 3));
        due.answers("5: proof(0, 0)", ProofSheet.NONE, () -> desk.proof(0, 0));
        due.answers("5: proof(0, 1)", ProofSheet.NONE, () -> desk.proof(0, 1));
        due.answers("5: proof(1, 1) of another page", ProofSheet.APPROVED, () -> desk.proof(1, 1));
        due.answers("5: edit to other colours", 3, () -> desk.edit(0, 255, 12));
        due.answers("5: a colour it uses no more", -1, () -> desk.proof(0, 0));
        due.answers("5: a colour it uses now", ProofSheet.NONE, () -> desk.proof(0, 3));
        due.refuses("5: its new fonts have no right", Due.STATE, () -> desk.prove(0, 3));
        due.answers("5: the other page's edition", 1, () -> desk.edition(1));
    }

    private static void replace() {
        ProofSheet desk = new ProofSheet();
        desk.setRight(0, 0, 9);
        desk.setRight(1, 0, 9);
        desk.insert(0, 1, 1);
        desk.insert(1, 2, 1);
        desk.insert(2, 3, 1);
        desk.insert(3, 0, 1);
        Due.approveAll(desk, 0, 3);
        int[][] wrong = {{-1, 0}, {8, 0}, {0, -1}, {0, 8}, {0, 0}, {7, 7}, {8, 8}};
        for (int[] pair : wrong) {
            due.refuses("6: replace(" + pair[0] + ", " + pair[1] + ")", Due.ARGUMENT,
                    () -> desk.replace(pair[0], pair[1]));
        }
        due.answers("6: a font that none uses", 0, () -> desk.replace(7, 0));
        due.answers("6: replace(0, 7)", 2, () -> desk.replace(0, 7));
        int[] editions = {2, 1, 2, 1};
        int[] proofs = {ProofSheet.NONE, ProofSheet.APPROVED, ProofSheet.NONE, ProofSheet.APPROVED};
        for (int place = 0; place < 4; place++) {
            int at = place;
            due.answers("6: edition(" + at + ")", editions[at], () -> desk.edition(at));
            due.answers("6: proof(" + at + ", 0)", proofs[at], () -> desk.proof(at, 0));
        }
        due.refuses("6: the other font has no right", Due.STATE, () -> desk.prove(0, 0));
        desk.withdraw(0);
        desk.setRight(7, 0, 9);
        due.answers("6: the font replaced is not used any more", 1, () -> desk.prove(0, 0));
        due.answers("6: a font that one uses, by one that it uses too", 2, () -> desk.replace(7, 1));
        due.answers("6: both pages use just the other then", 3, () -> desk.replace(1, 7));
        due.answers("6: none uses it any more", 0, () -> desk.replace(1, 7));
    }

    private static void pages() {
        ProofSheet desk = new ProofSheet();
        due.answers("7: none", 0, () -> desk.pages());
        for (int many = 1; many <= 64; many++) {
            int want = many;
            desk.insert(0, 0, 0);
            due.answers("7: pages()", want, () -> desk.pages());
        }
        desk.remove(63);
        due.answers("7: behind remove()", 63, () -> desk.pages());
    }

    private static void edition() {
        ProofSheet desk = deskOfColors(2);
        due.refuses("8: place -1", Due.INDEX, () -> desk.edition(-1));
        due.refuses("8: place 2", Due.INDEX, () -> desk.edition(2));
        due.answers("8: at first", 1, () -> desk.edition(1));
        for (int many = 2; many <= 300; many++) {
            desk.edit(1, 0, 0);
        }
        due.answers("8: behind 299 edits", 300, () -> desk.edition(1));
        due.answers("8: of another page", 1, () -> desk.edition(0));
        desk.remove(0);
        due.answers("8: at its new place", 300, () -> desk.edition(0));
    }
}
