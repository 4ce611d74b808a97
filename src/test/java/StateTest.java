/** Promises 1 to 7 and 9: what changes an object, what it refuses, and what it counts. */
public final class StateTest {
    private static final Checks CHECKS = new Checks();

    public static void main(String[] args) {
        newObject();
        clear();
        paragraph();
        sign();
        signRefuses();
        shapeRanges();
        shapeRefuses();
        shapeAtFirst();
        stop();
        stopRefuses();
        sheet();
        sheetAtFirst();
        count();
        changesForgetTheLayout();
        refusalsKeepTheLayout();
        CHECKS.close("StateTest");
    }

    private static void newObject() {
        PageLayout x = new PageLayout();
        for (int what = 0; what < 4; what++) {
            CHECKS.due("new: count(" + what + ")", 0, x.count(what));
        }
        CHECKS.thrown("new: line", Checks.NO_SUCH, () -> x.line(0, 0));
        CHECKS.thrown("new: where", Checks.NO_SUCH, () -> x.where(0, 0));
        CHECKS.thrown("new: page", Checks.NO_SUCH, () -> x.page(0, 0));
        CHECKS.thrown("new: hit", Checks.NO_SUCH, () -> x.hit(0, 0, 0));
        CHECKS.due("new: lay()", 0, x.lay());
        CHECKS.due("two objects are apart", 0, new PageLayout().paragraph());
    }

    private static void clear() {
        PageLayout x = Checks.written(25, "xx xx");
        x.shape(0, 0, 5);
        x.shape(0, 10, 9);
        x.stop(0, 7, 1);
        x.lay();
        x.clear();
        for (int what = 0; what < 4; what++) {
            CHECKS.due("cleared: count(" + what + ")", 0, x.count(what));
        }
        CHECKS.thrown("cleared: sign", Checks.NO_SUCH, () -> x.sign(0, 1, 1));
        CHECKS.thrown("cleared: shape", Checks.NO_SUCH, () -> x.shape(0, 0, 0));
        CHECKS.thrown("cleared: stop", Checks.NO_SUCH, () -> x.stop(0, 9, 0));
        CHECKS.due("cleared: paragraph()", 0, x.paragraph());
        CHECKS.due("cleared: sign()", 0, x.sign(2, 0, 2));
        CHECKS.due("cleared: sign()", 1, x.sign(1, 1, 2));
        CHECKS.due("cleared: sign()", 2, x.sign(0, 20, 2));
        CHECKS.due("cleared: lay()", 1, x.lay());
        CHECKS.dueLines("cleared, the shape is new", x, 3, 0);
        CHECKS.dueLines("cleared, the shape is new", x, 5, 2);
        CHECKS.due("cleared, the stops are gone and the step stays", 50, x.where(0, 2));
        CHECKS.due("cleared, the page stays as wide", 2, x.count(2));
        CHECKS.due("cleared: stop()", 1, x.stop(0, 1, 0));
    }

    private static void paragraph() {
        PageLayout x = new PageLayout();
        for (int i = 0; i < 30; i++) {
            CHECKS.due("paragraph()", i, x.paragraph());
        }
        CHECKS.thrown("paragraph() of 30", Checks.STATE, x::paragraph);
        CHECKS.due("paragraphs", 30, x.count(0));
        CHECKS.due("lay() of 30 empty ones", 1, x.lay());
        CHECKS.due("lines of 30 empty ones", 30, x.count(2));
        x.clear();
        CHECKS.due("paragraph() behind clear()", 0, x.paragraph());
    }

    private static void sign() {
        PageLayout x = new PageLayout();
        x.paragraph();
        CHECKS.due("sign()", 0, x.sign(0, 0, 0));
        CHECKS.due("sign()", 1, x.sign(6, 4000, 2000));
        x.paragraph();
        x.paragraph();
        CHECKS.due("sign() of paragraph 2", 2, x.sign(3, 1, 1));
        x.lay();
        CHECKS.dueLines("signs go to the last paragraph", x, 2, 2, 0, 1);
        CHECKS.dueLines("signs are numbered over all", x, 1, 0, 2, 2);
        for (int i = 3; i < 600; i++) {
            CHECKS.due("sign()", i, x.sign(0, 1, 1));
        }
        CHECKS.thrown("sign() of 600", Checks.STATE, () -> x.sign(0, 1, 1));
        CHECKS.thrown("wrong sign() of 600", Checks.ARGUMENT, () -> x.sign(0, 1, 2001));
        CHECKS.due("signs", 600, x.count(1));
    }

    private static void signRefuses() {
        PageLayout none = new PageLayout();
        CHECKS.thrown("sign() of none", Checks.NO_SUCH, () -> none.sign(0, 1, 1));
        CHECKS.thrown("wrong sign() of none", Checks.NO_SUCH, () -> none.sign(-1, -1, -1));
        PageLayout x = Checks.written(100, "");
        int[][] wrong = {{-1, 1, 1}, {7, 1, 1}, {0, -1, 1}, {0, 4001, 1}, {0, 1, -1}, {0, 1, 2001},
            {Integer.MIN_VALUE, 0, 0}, {0, Integer.MAX_VALUE, 0}, {0, 0, Integer.MIN_VALUE},
            {2, 4001, 1}, {5, 4001, 1}, {6, -1, 1}};
        for (int[] w : wrong) {
            CHECKS.thrown("sign(" + w[0] + ", " + w[1] + ", " + w[2] + ")", Checks.ARGUMENT,
                () -> x.sign(w[0], w[1], w[2]));
        }
        CHECKS.due("refused signs", 0, x.count(1));
    }

    private static void shapeRanges() {
        int[] from = {0, 0, -5000, 0, 0, 0, 0, 0, 0, 0, 1};
        int[] to = {5000, 5000, 5000, 5000, 5000, 3, 1, 1, 1, 1, 2000};
        PageLayout x = Checks.written(100, "x");
        for (int i = 0; i < 11; i++) {
            int what = i;
            CHECKS.nothingThrown("shape least " + i, () -> x.shape(0, what, from[what]));
            CHECKS.nothingThrown("shape most " + i, () -> x.shape(0, what, to[what]));
            CHECKS.thrown("shape below " + i, Checks.ARGUMENT,
                () -> x.shape(0, what, from[what] - 1));
            CHECKS.thrown("shape above " + i, Checks.ARGUMENT,
                () -> x.shape(0, what, to[what] + 1));
        }
    }

    private static void shapeRefuses() {
        PageLayout x = Checks.written(100, "x");
        CHECKS.thrown("shape(-1, ..)", Checks.NO_SUCH, () -> x.shape(-1, 0, 0));
        CHECKS.thrown("shape(1, ..)", Checks.NO_SUCH, () -> x.shape(1, 0, 0));
        CHECKS.thrown("shape(1, 11, ..)", Checks.NO_SUCH, () -> x.shape(1, 11, 0));
        CHECKS.thrown("shape(0, 11, 0)", Checks.ARGUMENT, () -> x.shape(0, 11, 0));
        CHECKS.thrown("shape(0, -1, 0)", Checks.ARGUMENT, () -> x.shape(0, -1, 0));
        CHECKS.thrown("shape(0, huge, 0)", Checks.ARGUMENT,
            () -> x.shape(0, Integer.MAX_VALUE, 0));
        x.shape(0, 0, 7);
        CHECKS.thrown("shape(0, 0, 5001)", Checks.ARGUMENT, () -> x.shape(0, 0, 5001));
        x.lay();
        CHECKS.dueLines("a refused shape changes nothing", x, 3, 7);
    }

    private static void shapeAtFirst() {
        PageLayout x = new PageLayout();
        x.paragraph();
        x.sign(0, 10, 0);
        x.sign(5, 0, 0);
        x.sign(0, 10, 0);
        x.paragraph();
        x.paragraph();
        x.lay();
        CHECKS.dueLines("left, first", x, 3, 0, 0, 0, 0);
        CHECKS.dueLines("least height", x, 5, 1, 1, 1, 1);
        CHECKS.dueLines("before, after", x, 7, 0, 1, 2, 3);
        CHECKS.dueLines("aligned", x, 8, 0, 0, 0, 0);
        x.sheet(10000, 1, 1);
        CHECKS.due("nothing is kept together", 4, x.lay());
    }

    private static void stop() {
        PageLayout x = Checks.written(100, "");
        x.paragraph();
        for (int i = 1; i < 8; i++) {
            CHECKS.due("stop()", i, x.stop(0, i, i % 3));
        }
        CHECKS.due("stop() of the other", 1, x.stop(1, 30000, 2));
        CHECKS.due("stop()", 8, x.stop(0, 29999, 0));
        CHECKS.thrown("stop() of 8", Checks.STATE, () -> x.stop(0, 30000, 0));
        CHECKS.thrown("wrong kind of 8", Checks.ARGUMENT, () -> x.stop(0, 30000, 3));
        CHECKS.thrown("wrong place of 8", Checks.ARGUMENT, () -> x.stop(0, 29999, 0));
    }

    private static void stopRefuses() {
        PageLayout x = Checks.written(100, "");
        CHECKS.thrown("stop(-1, ..)", Checks.NO_SUCH, () -> x.stop(-1, 1, 0));
        CHECKS.thrown("stop(1, ..)", Checks.NO_SUCH, () -> x.stop(1, 1, 0));
        CHECKS.thrown("wrong stop(1, ..)", Checks.NO_SUCH, () -> x.stop(1, 0, 3));
        CHECKS.thrown("stop(0, 0, 0)", Checks.ARGUMENT, () -> x.stop(0, 0, 0));
        CHECKS.thrown("stop(0, -5, 0)", Checks.ARGUMENT, () -> x.stop(0, -5, 0));
        CHECKS.thrown("stop(0, 30001, 0)", Checks.ARGUMENT, () -> x.stop(0, 30001, 0));
        CHECKS.thrown("stop(0, 1, -1)", Checks.ARGUMENT, () -> x.stop(0, 1, -1));
        CHECKS.thrown("stop(0, 1, 3)", Checks.ARGUMENT, () -> x.stop(0, 1, 3));
        CHECKS.due("stop(0, 20, 0)", 1, x.stop(0, 20, 0));
        CHECKS.thrown("the same place", Checks.ARGUMENT, () -> x.stop(0, 20, 1));
        CHECKS.thrown("a lower place", Checks.ARGUMENT, () -> x.stop(0, 19, 0));
        CHECKS.due("stop(0, 21, 0)", 2, x.stop(0, 21, 0));
    }

    private static void sheet() {
        PageLayout x = Checks.written(100, ">x x");
        CHECKS.nothingThrown("least sheet", () -> x.sheet(1, 1, 1));
        CHECKS.nothingThrown("most sheet", () -> x.sheet(30000, 30000, 30000));
        x.lay();
        CHECKS.due("step 30000", 30000, x.where(0, 2));
        x.sheet(90, 9, 40);
        int[][] wrong = {{0, 1, 1}, {1, 0, 1}, {1, 1, 0}, {30001, 1, 1}, {1, 30001, 1},
            {1, 1, 30001}, {-1, -1, -1}, {Integer.MIN_VALUE, 1, 1}, {1, Integer.MAX_VALUE, 1}};
        for (int[] w : wrong) {
            CHECKS.thrown("sheet(" + w[0] + ", " + w[1] + ", " + w[2] + ")", Checks.ARGUMENT,
                () -> x.sheet(w[0], w[1], w[2]));
        }
        x.shape(0, 5, 1);
        CHECKS.due("lay() of the sheet", 1, x.lay());
        CHECKS.due("wide", 26, x.line(0, 8));
        CHECKS.due("step", 40, x.where(0, 2));
        x.sheet(40, 9, 40);
        CHECKS.due("lay() of a narrow sheet", 2, x.lay());
    }

    private static void sheetAtFirst() {
        PageLayout x = new PageLayout();
        int p = x.paragraph();
        x.sign(2, 0, 2000);
        x.shape(p, 5, 1);
        x.shape(p, 10, 1000);
        for (int i = 0; i < 13; i++) {
            x.sign(5, 0, 1000);
        }
        CHECKS.due("15000 high", 1, x.lay());
        CHECKS.due("step 700", 700, x.where(0, 2));
        CHECKS.due("10000 wide", 9300, x.line(0, 8));
        x.sign(0, 0, 1000);
        CHECKS.due("where it ends", 1, x.lay());
        CHECKS.due("where it ends", 15000, x.page(0, 2));
        x.sign(5, 0, 1001);
        CHECKS.due("beyond 15000", 2, x.lay());
    }

    private static void count() {
        PageLayout x = Checks.written(25, "xx xx xx");
        x.sheet(25, 17, 5);
        x.paragraph();
        int[] before = {2, 8, 0, 0, -1};
        int[] behind = {2, 8, 4, 2, -1};
        for (int what = 0; what < 5; what++) {
            CHECKS.due("count(" + what + ")", before[what], x.count(what));
        }
        CHECKS.due("lay()", 2, x.lay());
        for (int what = 0; what < 5; what++) {
            CHECKS.due("laid: count(" + what + ")", behind[what], x.count(what));
        }
        CHECKS.due("count(-1)", -1, x.count(-1));
        CHECKS.due("count(least)", -1, x.count(Integer.MIN_VALUE));
        CHECKS.due("count(most)", -1, x.count(Integer.MAX_VALUE));
    }

    private static void changesForgetTheLayout() {
        PageLayout x = Checks.written(25, "xx xx");
        isForgotten("paragraph()", x, () -> x.paragraph());
        isForgotten("sign()", x, () -> x.sign(0, 1, 1));
        isForgotten("shape()", x, () -> x.shape(0, 5, 1));
        isForgotten("stop()", x, () -> x.stop(0, 1, 1));
        isForgotten("sheet()", x, () -> x.sheet(30, 100, 50));
        isForgotten("clear()", x, () -> x.clear());
    }

    private static void isForgotten(String call, PageLayout x, Checks.Call made) {
        x.lay();
        CHECKS.nothingThrown("line() ahead of " + call, () -> x.line(0, 0));
        CHECKS.nothingThrown("where() ahead of " + call, () -> x.where(0, 0));
        made.run();
        CHECKS.due("count(2) behind " + call, 0, x.count(2));
        CHECKS.due("count(3) behind " + call, 0, x.count(3));
        CHECKS.thrown("line() behind " + call, Checks.NO_SUCH, () -> x.line(0, 0));
        CHECKS.thrown("wrong line() behind " + call, Checks.NO_SUCH, () -> x.line(0, 10));
        CHECKS.thrown("where() behind " + call, Checks.NO_SUCH, () -> x.where(0, 0));
        CHECKS.thrown("wrong where() behind " + call, Checks.NO_SUCH, () -> x.where(0, 3));
        CHECKS.thrown("page() behind " + call, Checks.NO_SUCH, () -> x.page(0, 0));
        CHECKS.thrown("hit() behind " + call, Checks.NO_SUCH, () -> x.hit(0, 0, 0));
    }

    private static void refusalsKeepTheLayout() {
        PageLayout x = Checks.written(25, "xx xx");
        x.stop(0, 9, 0);
        CHECKS.due("lay()", 1, x.lay());
        CHECKS.thrown("sign()", Checks.ARGUMENT, () -> x.sign(7, 1, 1));
        CHECKS.thrown("shape()", Checks.NO_SUCH, () -> x.shape(1, 0, 1));
        CHECKS.thrown("shape()", Checks.ARGUMENT, () -> x.shape(0, 0, -1));
        CHECKS.thrown("stop()", Checks.ARGUMENT, () -> x.stop(0, 9, 1));
        CHECKS.thrown("sheet()", Checks.ARGUMENT, () -> x.sheet(1, 1, 0));
        CHECKS.thrown("where()", Checks.ARGUMENT, () -> x.where(0, 3));
        CHECKS.due("lines behind refusals", 2, x.count(2));
        CHECKS.due("pages behind refusals", 1, x.count(3));
        CHECKS.due("where() behind refusals", 1, x.where(3, 0));
        CHECKS.due("lay() again", 1, x.lay());
        CHECKS.due("lines of lay() again", 2, x.count(2));
    }
}
