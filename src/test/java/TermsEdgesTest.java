/** The edges that the Terms name of paragraphs, signs, shapes, stops, the page and a layout. */
public final class TermsEdgesTest {
    private static final Checks CHECKS = new Checks();
    private static final int[] SHAPE_FROM = {0, 0, -5000, 0, 0, 0, 0, 0, 0, 0, 1};
    private static final int[] SHAPE_TO = {5000, 5000, 5000, 5000, 5000, 3, 1, 1, 1, 1, 2000};

    public static void main(String[] args) {
        usedFor512Calls();
        atMost30Paragraphs();
        atMost600SignsTogether();
        kindWidthAndHeightOfASign();
        widthsThatDoNotCount();
        shapeLengths();
        shapeAlignments();
        shapeSwitches();
        shapeHeight();
        shapesAtFirst();
        upTo8Stops();
        risingPlaces();
        stopAtEachMultipleOfTheStep();
        stepsAboveTheLastStop();
        pageAtFirst();
        firstExceptionListed();
        whatThrowsChangesNothing();
        laidOutUntilAChange();
        CHECKS.close("TermsEdgesTest");
    }

    /** "An object is used for at most 512 calls after it has been made" */
    private static void usedFor512Calls() {
        PageLayout x = new PageLayout();
        x.sheet(4000, 80, 1);
        x.paragraph();
        for (int i = 0; i < 505; i++) {
            x.sign(i % 2, 100, 8);
        }
        CHECKS.due("call 508: lay()", 2, x.lay());
        CHECKS.due("call 509: lines", 13, x.count(2));
        CHECKS.due("call 510: the last line's signs", 25, x.line(12, 2));
        CHECKS.due("call 511: the last sign", 2400, x.where(504, 1));
        CHECKS.due("call 512: behind the last sign", 505, x.hit(1, 4000, 80));
    }

    /** "There are PARAGRAPHS 0, 1, .., at most 30" */
    private static void atMost30Paragraphs() {
        PageLayout x = new PageLayout();
        for (int i = 0; i < 30; i++) {
            CHECKS.due("paragraphs are numbered", i, x.paragraph());
            x.sign(0, i, i);
            x.shape(i, 0, i);
        }
        x.lay();
        CHECKS.thrown("the 31st paragraph", Checks.STATE, x::paragraph);
        CHECKS.due("all 30 are there", 30, x.count(0));
        CHECKS.due("they are still laid out", 30, x.count(2));
        CHECKS.due("the last one", 29, x.line(29, 0));
        CHECKS.due("the last one's shape", 29, x.line(29, 3));
        CHECKS.due("a sign goes to the last one", 30, x.sign(0, 1, 1));
        CHECKS.due("a stop of the last one", 1, x.stop(29, 1, 0));
        x.lay();
        CHECKS.due("the last one has two signs", 2, x.line(29, 2));
    }

    /** "each a row of SIGNS, at most 600 together (sign 0, 1, .. over all paragraphs)" */
    private static void atMost600SignsTogether() {
        PageLayout x = new PageLayout();
        for (int i = 0; i < 600; i++) {
            if (i % 25 == 0) {
                x.paragraph();
            }
            CHECKS.due("signs are numbered over all", i, x.sign(0, 10, 1));
        }
        CHECKS.thrown("the 601st sign", Checks.STATE, () -> x.sign(0, 0, 0));
        CHECKS.due("all 600 are there", 600, x.count(1));
        CHECKS.due("one more paragraph", 24, x.paragraph());
        CHECKS.thrown("the 601st sign in a new one", Checks.STATE, () -> x.sign(0, 0, 0));
        x.lay();
        CHECKS.due("lines", 25, x.count(2));
        CHECKS.due("the last sign's line", 23, x.where(599, 0));
        CHECKS.due("the last sign's place", 240, x.where(599, 1));
        CHECKS.due("the number the next one would have", 600, x.line(24, 1));
        x.clear();
        x.paragraph();
        CHECKS.due("behind clear() there is room again", 0, x.sign(0, 0, 0));
    }

    /** "A sign has a KIND, a width 0 .. 4000 and a height 0 .. 2000" */
    private static void kindWidthAndHeightOfASign() {
        PageLayout x = new PageLayout();
        x.paragraph();
        for (int kind = 0; kind <= 6; kind++) {
            int of = kind;
            CHECKS.due("least of kind " + kind, 2 * kind, x.sign(kind, 0, 0));
            CHECKS.due("most of kind " + kind, 2 * kind + 1, x.sign(kind, 4000, 2000));
            CHECKS.thrown("width 4001 of " + kind, Checks.ARGUMENT, () -> x.sign(of, 4001, 0));
            CHECKS.thrown("width -1 of " + kind, Checks.ARGUMENT, () -> x.sign(of, -1, 0));
            CHECKS.thrown("height 2001 of " + kind, Checks.ARGUMENT, () -> x.sign(of, 0, 2001));
            CHECKS.thrown("height -1 of " + kind, Checks.ARGUMENT, () -> x.sign(of, 0, -1));
        }
        CHECKS.thrown("kind 7", Checks.ARGUMENT, () -> x.sign(7, 0, 0));
        CHECKS.thrown("kind -1", Checks.ARGUMENT, () -> x.sign(-1, 0, 0));
        PageLayout y = new PageLayout();
        y.paragraph();
        y.sign(0, 4000, 2000);
        y.paragraph();
        y.sign(0, 0, 0);
        y.lay();
        CHECKS.dueSigns("the widths count", y, 2, 4000, 0);
        CHECKS.dueLines("the heights count", y, 5, 2000, 1);
    }

    /** "(widths of the kinds 2, 5 and 6 are given, too, but don't count)" */
    private static void widthsThatDoNotCount() {
        for (int width : new int[] {0, 1, 3999, 4000}) {
            PageLayout x = new PageLayout();
            x.sheet(90, 100, 30);
            x.paragraph();
            Checks.signs(x, new int[] {2, 0, 5, 2, 0, 6, 0}, new int[] {width, 9, width, width, 9,
                width, 9});
            CHECKS.dueSplit("width " + width, x, 3, 3, 1);
            CHECKS.dueSigns("width " + width, x, 2, 30, 9, 0, 30, 9, 0, 9);
            CHECKS.dueLines("width " + width, x, 4, 39, 39, 9);
        }
    }

    private static void dueRange(int what) {
        PageLayout x = new PageLayout();
        x.paragraph();
        CHECKS.nothingThrown("least of " + what, () -> x.shape(0, what, SHAPE_FROM[what]));
        CHECKS.nothingThrown("most of " + what, () -> x.shape(0, what, SHAPE_TO[what]));
        CHECKS.thrown("below " + what, Checks.ARGUMENT,
            () -> x.shape(0, what, SHAPE_FROM[what] - 1));
        CHECKS.thrown("above " + what, Checks.ARGUMENT,
            () -> x.shape(0, what, SHAPE_TO[what] + 1));
        CHECKS.thrown("far below " + what, Checks.ARGUMENT,
            () -> x.shape(0, what, Integer.MIN_VALUE));
        CHECKS.thrown("far above " + what, Checks.ARGUMENT,
            () -> x.shape(0, what, Integer.MAX_VALUE));
    }

    /** "0 LEFT indent (0 .. 5000), 1 RIGHT indent, 2 FIRST (-5000 ..), 3 BEFORE, 4 AFTER" */
    private static void shapeLengths() {
        for (int what = 0; what <= 4; what++) {
            dueRange(what);
        }
        PageLayout x = new PageLayout();
        x.paragraph();
        x.shape(0, 0, 5000);
        x.shape(0, 2, 5000);
        x.shape(0, 4, 5000);
        x.sign(5, 0, 0);
        x.sign(0, 0, 0);
        x.paragraph();
        x.shape(1, 1, 5000);
        x.shape(1, 3, 5000);
        x.shape(1, 5, 1);
        x.lay();
        CHECKS.dueLines("left and first", x, 3, 10000, 5000, 0);
        CHECKS.dueLines("right", x, 8, 0, 0, 5000);
        CHECKS.dueLines("before and after", x, 7, 0, 1, 10002);
    }

    /** "5 ALIGNED (0 left, 1 right, 2 in the middle, 3 to both sides)" */
    private static void shapeAlignments() {
        dueRange(5);
        int[] moved = {0, 11, 5, 0};
        int[] wider = {0, 0, 0, 11};
        for (int aligned = 0; aligned <= 3; aligned++) {
            PageLayout x = Checks.written(35, "x x xxxx");
            x.shape(0, 5, aligned);
            x.lay();
            CHECKS.due("moved if aligned " + aligned, moved[aligned], x.line(0, 8));
            CHECKS.due("wider if aligned " + aligned, wider[aligned], x.line(0, 9));
        }
    }

    /** "6 .. NEXT, 7 .. TOGETHER, 8 .. WIDOWS are forbidden, 9 .. BEGINS with it (0 or 1)" */
    private static void shapeSwitches() {
        int[][] pagesIfNot = {{3, 1}, {3, 1}, {3, 1}, {3, 1}};
        int[][] pagesIfSo = {{2, 2}, {1, 3}, {1, 3}, {1, 3}};
        int[][] linesOf = {{2, 1, 1}, {1, 3}, {1, 3}, {1, 3}};
        for (int what = 6; what <= 9; what++) {
            dueRange(what);
            PageLayout x = new PageLayout();
            x.sheet(100, 24, 50);
            for (int lines : linesOf[what - 6]) {
                Checks.paragraphOf(x, lines);
            }
            CHECKS.dueFilled("at first, not " + what, x, pagesIfNot[what - 6]);
            x.shape(1, what, 1);
            CHECKS.dueFilled("then " + what, x, pagesIfSo[what - 6]);
            x.shape(1, what, 0);
            CHECKS.dueFilled("not " + what + " again", x, pagesIfNot[what - 6]);
        }
    }

    /** "10 its least HEIGHT (1 .. 2000)" */
    private static void shapeHeight() {
        dueRange(10);
        PageLayout x = new PageLayout();
        x.paragraph();
        x.sign(0, 1, 7);
        int[] least = {1, 6, 7, 8, 2000};
        int[] want = {7, 7, 7, 8, 2000};
        for (int i = 0; i < least.length; i++) {
            x.shape(0, 10, least[i]);
            x.lay();
            CHECKS.due("height if least " + least[i], want[i], x.line(0, 5));
        }
    }

    /** "at first 0, but 10, which is 1": as if each had been set to that. */
    private static void shapesAtFirst() {
        for (int what = 0; what <= 10; what++) {
            int high = what == 6 ? 6 : what == 7 || what == 8 ? 2 : 7;
            PageLayout x = threeParagraphs(high);
            PageLayout set = threeParagraphs(high);
            PageLayout other = threeParagraphs(high);
            set.shape(1, what, what == 10 ? 1 : 0);
            other.shape(1, what, what == 10 ? 2 : 1);
            x.lay();
            set.lay();
            other.lay();
            CHECKS.due("at first " + what, Answers.ofAll(set), Answers.ofAll(x));
            boolean isSame = Answers.ofAll(other).equals(Answers.ofAll(x));
            CHECKS.due("another one shows for " + what, 0, isSame ? 1 : 0);
        }
    }

    /** Paragraphs of 1, 5 and 2 lines, most of them 1 high, on pages so high. */
    private static PageLayout threeParagraphs(int high) {
        PageLayout x = new PageLayout();
        x.sheet(40, high, 20);
        x.paragraph();
        x.sign(0, 30, 1);
        x.paragraph();
        int[] kinds = {0, 1, 0, 1, 0, 1, 0, 5, 0, 5, 5, 0};
        int[] widths = {10, 5, 10, 5, 10, 5, 10, 0, 40, 0, 0, 30};
        for (int i = 0; i < kinds.length; i++) {
            x.sign(kinds[i], widths[i], i == 10 ? 0 : 1);
        }
        x.paragraph();
        x.sign(0, 30, 1);
        x.sign(5, 0, 0);
        x.sign(0, 30, 1);
        return x;
    }

    /** "It has up to 8 STOPS" */
    private static void upTo8Stops() {
        PageLayout x = Checks.written(1000, ">>>>>>>>>");
        x.paragraph();
        for (int i = 1; i <= 8; i++) {
            CHECKS.due("how many stops", i, x.stop(0, 10 * i, 0));
        }
        x.lay();
        CHECKS.thrown("the 9th stop", Checks.STATE, () -> x.stop(0, 90, 0));
        CHECKS.dueSigns("the 8 stops and a step", x, 2, 10, 10, 10, 10, 10, 10, 10, 10, 20);
        CHECKS.due("a stop of another one", 1, x.stop(1, 90, 0));
    }

    /** "rising places 1 .. 30000, each of a kind: 0 .. 1 .. 2" */
    private static void risingPlaces() {
        PageLayout x = Checks.written(30000, ">>");
        CHECKS.thrown("place 0", Checks.ARGUMENT, () -> x.stop(0, 0, 0));
        CHECKS.due("place 1", 1, x.stop(0, 1, 0));
        CHECKS.thrown("place 1 again", Checks.ARGUMENT, () -> x.stop(0, 1, 2));
        CHECKS.thrown("place 30001", Checks.ARGUMENT, () -> x.stop(0, 30001, 0));
        CHECKS.thrown("kind -1", Checks.ARGUMENT, () -> x.stop(0, 2, -1));
        CHECKS.thrown("kind 3", Checks.ARGUMENT, () -> x.stop(0, 2, 3));
        CHECKS.due("place 30000", 2, x.stop(0, 30000, 2));
        CHECKS.thrown("none above it", Checks.ARGUMENT, () -> x.stop(0, 30000, 0));
        CHECKS.thrown("none beyond it", Checks.ARGUMENT, () -> x.stop(0, 30001, 0));
        x.lay();
        CHECKS.dueSigns("the least and the most place", x, 2, 1, 29999);
    }

    /** "Besides there is a stop of kind 0 at each multiple of the STEP .. (above 0, if none)" */
    private static void stopAtEachMultipleOfTheStep() {
        int[] left = {0, 1, 49, 50, 51, 99, 100};
        int[] want = {50, 49, 1, 50, 49, 1, 50};
        for (int i = 0; i < left.length; i++) {
            PageLayout x = Checks.written(1000, ">xx");
            x.shape(0, 0, left[i]);
            x.lay();
            CHECKS.due("a step above " + left[i], want[i], x.where(0, 2));
            CHECKS.due("what follows begins there", left[i] + want[i], x.where(1, 1));
        }
        PageLayout x = Checks.written(1000, ">>");
        x.sheet(1000, 100, 1);
        x.lay();
        CHECKS.dueSigns("steps of 1", x, 2, 1, 1);
        x.sheet(30000, 100, 30000);
        CHECKS.dueSplit("steps of 30000", x, 1, 1);
        x.shape(0, 1, 5000);
        CHECKS.dueSplit("steps that don't fit", x, 1, 1);
        CHECKS.dueSigns("steps that don't fit", x, 2, 30000, 30000);
    }

    /** ".. that is above its last one of these" */
    private static void stepsAboveTheLastStop() {
        int[] last = {49, 50, 51, 99, 100, 101};
        int[] want = {50, 100, 100, 100, 150, 150};
        for (int i = 0; i < last.length; i++) {
            PageLayout x = Checks.written(1000, ">>");
            x.stop(0, last[i], 0);
            x.lay();
            CHECKS.due("the stop at " + last[i], last[i], x.where(0, 2));
            CHECKS.due("the step above " + last[i], want[i], x.where(1, 1) + x.where(1, 2));
        }
        PageLayout far = Checks.written(30000, ">");
        far.stop(0, 30000, 0);
        far.lay();
        CHECKS.due("no step below the last stop", 30000, far.where(0, 2));
        PageLayout beyond = Checks.written(30000, "x>");
        beyond.shape(0, 0, 110);
        beyond.stop(0, 20, 1);
        beyond.stop(0, 60, 1);
        beyond.lay();
        CHECKS.due("behind all stops a step", 30, beyond.where(1, 2));
    }

    /** "(At first 10000, 15000 and a step of 700.)" */
    private static void pageAtFirst() {
        PageLayout x = new PageLayout();
        x.paragraph();
        Checks.signs(x, new int[] {0, 0, 0, 3, 0}, new int[] {4000, 4000, 1999, 1, 1});
        CHECKS.dueSplit("10000 wide, and 1 more", x, 4, 1);
        PageLayout high = new PageLayout();
        high.paragraph();
        for (int i = 0; i < 8; i++) {
            high.sign(5, 0, i == 7 ? 1000 : 2000);
        }
        CHECKS.dueFilled("15000 high", high, 8);
        high.sign(0, 0, 1);
        CHECKS.dueFilled("15001 high", high, 8, 1);
        PageLayout tab = new PageLayout();
        tab.paragraph();
        Checks.signs(tab, new int[] {0, 2, 2}, new int[] {699, 0, 0});
        tab.lay();
        CHECKS.dueSigns("steps of 700", tab, 2, 699, 1, 700);
    }

    /** "Of several exceptions that apply the first one listed is thrown" */
    private static void firstExceptionListed() {
        PageLayout none = new PageLayout();
        CHECKS.thrown("sign(): none, wrong", Checks.NO_SUCH, () -> none.sign(7, -1, -1));
        CHECKS.thrown("shape(): none, wrong", Checks.NO_SUCH, () -> none.shape(0, 11, -1));
        CHECKS.thrown("stop(): none, wrong", Checks.NO_SUCH, () -> none.stop(0, 0, 3));
        CHECKS.thrown("line(): none, wrong", Checks.NO_SUCH, () -> none.line(0, 10));
        CHECKS.thrown("where(): none, wrong", Checks.NO_SUCH, () -> none.where(0, 3));
        CHECKS.thrown("page(): none, wrong", Checks.NO_SUCH, () -> none.page(0, 3));
        PageLayout full = new PageLayout();
        full.paragraph();
        for (int i = 0; i < 600; i++) {
            full.sign(0, 0, 0);
        }
        for (int i = 1; i <= 8; i++) {
            full.stop(0, i, 0);
        }
        CHECKS.thrown("sign(): wrong, too many", Checks.ARGUMENT, () -> full.sign(7, 0, 0));
        CHECKS.thrown("stop(): wrong, too many", Checks.ARGUMENT, () -> full.stop(0, 8, 0));
        CHECKS.thrown("stop(): wrong kind, too many", Checks.ARGUMENT, () -> full.stop(0, 9, 3));
        CHECKS.thrown("stop(): none, too many", Checks.NO_SUCH, () -> full.stop(1, 9, 0));
        CHECKS.thrown("sign(): too many", Checks.STATE, () -> full.sign(0, 0, 0));
        CHECKS.thrown("stop(): too many", Checks.STATE, () -> full.stop(0, 9, 0));
    }

    /** "what throws changes nothing": neither what was given nor what is laid out. */
    private static void whatThrowsChangesNothing() {
        PageLayout x = threeParagraphs(7);
        PageLayout twin = threeParagraphs(7);
        x.lay();
        twin.lay();
        int[] anything = {Integer.MIN_VALUE, -5001, -1, 0, 1, 3, 11, 5001, Integer.MAX_VALUE};
        for (int a : anything) {
            for (int b : anything) {
                thrownIfAny(() -> x.sign(7, a, b));
                thrownIfAny(() -> x.sign(a, 4001, b));
                thrownIfAny(() -> x.sign(a, b, -1));
                thrownIfAny(() -> x.shape(3, a, b));
                thrownIfAny(() -> x.shape(a, 11, b));
                thrownIfAny(() -> x.shape(a, b, -5001));
                thrownIfAny(() -> x.stop(3, a, b));
                thrownIfAny(() -> x.stop(a, 0, b));
                thrownIfAny(() -> x.stop(a, b, 3));
                thrownIfAny(() -> x.sheet(0, a, b));
                thrownIfAny(() -> x.sheet(a, 30001, b));
                thrownIfAny(() -> x.sheet(a, b, 0));
                thrownIfAny(() -> x.line(a, 10));
                thrownIfAny(() -> x.where(a, 3));
                thrownIfAny(() -> x.page(a, -1));
                thrownIfAny(() -> x.hit(-1, a, b));
            }
        }
        CHECKS.due("behind refused calls", Answers.ofAllHeld(twin), Answers.ofAllHeld(x));
    }

    private static void thrownIfAny(Checks.Call made) {
        boolean isRefused = !Answers.of(made).equals("void");
        CHECKS.due("the call is refused", 1, isRefused ? 1 : 0);
    }

    /** "what is told .. is of the latest lay(), until a paragraph, .. is changed" */
    private static void laidOutUntilAChange() {
        PageLayout x = Checks.written(25, "xx xx");
        PageLayout[] at = {x};
        Checks.Call[] asking = {() -> at[0].count(0), () -> at[0].line(0, 0),
            () -> at[0].where(0, 0), () -> at[0].page(0, 0), () -> at[0].hit(0, 0, 0),
            () -> at[0].lay()};
        CHECKS.due("ahead of lay()", 0, x.count(2));
        x.lay();
        for (Checks.Call each : asking) {
            each.run();
            CHECKS.due("a question changes nothing", 2, x.count(2));
        }
        Checks.Call[] changing = {() -> at[0].clear(), () -> at[0].paragraph(),
            () -> at[0].sign(0, 0, 0), () -> at[0].shape(0, 0, 1), () -> at[0].stop(0, 1, 0),
            () -> at[0].sheet(26, 100, 50)};
        for (Checks.Call each : changing) {
            at[0] = Checks.written(25, "xx xx");
            at[0].lay();
            each.run();
            CHECKS.due("then no lines are laid out", 0, at[0].count(2));
            CHECKS.due("then no pages are laid out", 0, at[0].count(3));
            CHECKS.thrown("no line", Checks.NO_SUCH, () -> at[0].line(0, 0));
            CHECKS.thrown("no place", Checks.NO_SUCH, () -> at[0].where(0, 0));
            CHECKS.thrown("no page", Checks.NO_SUCH, () -> at[0].page(0, 0));
            CHECKS.thrown("no hit", Checks.NO_SUCH, () -> at[0].hit(0, 0, 0));
        }
    }
}
