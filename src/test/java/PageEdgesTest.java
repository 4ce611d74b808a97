/** The edges that the Terms name of pages: which lines they have, where these stand. */
public final class PageEdgesTest {
    private static final Checks CHECKS = new Checks();
    private static final int BEFORE = 3;
    private static final int AFTER = 4;
    private static final int NEXT = 6;
    private static final int TOGETHER = 7;
    private static final int WIDOWS = 8;
    private static final int BEGINS = 9;
    private static final int HEIGHT = 10;

    public static void main(String[] args) {
        numberedOverAllParagraphs();
        firstStandsAt0();
        eachWhereTheOneBeforeEnds();
        afterAndBefore();
        endsAtHighOrAbove();
        spacesCountForTheEnd();
        oneLineAtLeast();
        endsBehindAPageEnd();
        pageEndNotLast();
        endsAheadOfAParagraph();
        mayEndBetweenParagraphs();
        mayEndWithinAParagraph();
        widowsForbidden();
        widowsOfFewLines();
        whoseShapeCounts();
        firstPlaceWhereItEnds();
        endsRightBehindThoseItCanHave();
        allThatAreLeft();
        lastPlaceWhereItMayEnd();
        otherwiseAllItCanHave();
        noPageWithoutLines();
        fullOfLines();
        CHECKS.close("PageEdgesTest");
    }

    /** Paragraphs of so many lines, each 8 high, on pages with room for so many. */
    private static PageLayout made(int room, int... linesOf) {
        PageLayout x = new PageLayout();
        x.sheet(100, Checks.HEIGHT * room, 50);
        for (int lines : linesOf) {
            Checks.paragraphOf(x, lines);
        }
        return x;
    }

    /** "Lines are numbered over all paragraphs." */
    private static void numberedOverAllParagraphs() {
        PageLayout x = made(9, 2, 1, 3);
        x.paragraph();
        x.lay();
        CHECKS.due("lines", 7, x.count(2));
        CHECKS.dueLines("paragraphs", x, 0, 0, 0, 1, 2, 2, 2, 3);
        CHECKS.dueLines("first signs", x, 1, 0, 2, 3, 4, 6, 8, 9);
        CHECKS.thrown("line(7, 0)", Checks.NO_SUCH, () -> x.line(7, 0));
    }

    /** "the first one stands at 0": no BEFORE or AFTER ahead of it. */
    private static void firstStandsAt0() {
        PageLayout x = made(2, 1, 2, 1);
        for (int i = 0; i < 3; i++) {
            x.shape(i, BEFORE, 5000);
            x.shape(i, AFTER, 5000);
        }
        CHECKS.dueFilled("spaces", x, 1, 2, 1);
        CHECKS.dueLines("first ones", x, 7, 0, 0, 8, 0);
        CHECKS.duePages("their ends", x, 2, 8, 16, 8);
    }

    /** "each other one where the one before ends" */
    private static void eachWhereTheOneBeforeEnds() {
        PageLayout x = new PageLayout();
        x.paragraph();
        int[] heights = {2000, 0, 1, 2, 1999};
        for (int height : heights) {
            x.sign(5, 0, height);
        }
        x.lay();
        CHECKS.dueLines("places", x, 7, 0, 2000, 2001, 2002, 2004);
        CHECKS.duePages("the end", x, 2, 4003);
    }

    /** "and behind that, if it is the first of its paragraph, AFTER .. before and BEFORE .. own" */
    private static void afterAndBefore() {
        PageLayout x = made(20, 2, 2, 1);
        x.shape(0, BEFORE, 1000);
        x.shape(0, AFTER, 1);
        x.shape(1, BEFORE, 2);
        x.shape(1, AFTER, 4);
        x.shape(2, BEFORE, 8);
        x.shape(2, AFTER, 1000);
        CHECKS.dueFilled("spaces", x, 5);
        CHECKS.dueLines("spaces", x, 7, 0, 8, 19, 27, 47);
        CHECKS.duePages("none behind the last", x, 2, 55);
        PageLayout empty = new PageLayout();
        for (int i = 0; i < 3; i++) {
            empty.paragraph();
            empty.shape(i, BEFORE, 10);
            empty.shape(i, AFTER, 20);
        }
        empty.lay();
        CHECKS.dueLines("of empty ones", empty, 7, 0, 31, 62);
    }

    /** "those up to the last one that ends at HIGH or above" */
    private static void endsAtHighOrAbove() {
        int[] high = {7, 8, 9, 15, 16, 17, 23, 24, 25};
        int[] first = {1, 1, 1, 1, 2, 2, 2, 3, 3};
        for (int i = 0; i < high.length; i++) {
            PageLayout x = made(1, 4);
            x.sheet(100, high[i], 50);
            x.lay();
            CHECKS.due("lines of a page " + high[i] + " high", first[i], x.page(0, 1));
        }
        PageLayout highest = new PageLayout();
        highest.sheet(100, 30000, 50);
        highest.paragraph();
        for (int i = 0; i < 16; i++) {
            highest.sign(5, 0, i == 14 ? 1999 : i == 15 ? 1 : 2000);
        }
        CHECKS.dueFilled("30000 high", highest, 16);
        highest.sign(5, 0, 0);
        CHECKS.dueFilled("30001 high", highest, 16, 1);
        PageLayout least = new PageLayout();
        least.sheet(100, 1, 50);
        least.paragraph();
        least.sign(5, 0, 0);
        least.sign(5, 0, 1);
        least.sign(5, 0, 2);
        CHECKS.dueFilled("1 high", least, 1, 1, 1);
        CHECKS.duePages("1 high", least, 2, 1, 1, 2);
    }

    /** The spaces ahead of a line count for where it ends, those behind it don't. */
    private static void spacesCountForTheEnd() {
        PageLayout x = made(1, 1, 1);
        x.shape(0, AFTER, 3);
        x.shape(1, BEFORE, 4);
        x.shape(1, AFTER, 5000);
        x.sheet(100, 23, 50);
        CHECKS.dueFilled("just so high", x, 2);
        x.sheet(100, 22, 50);
        CHECKS.dueFilled("1 less", x, 1, 1);
    }

    /** "but one at least" */
    private static void oneLineAtLeast() {
        PageLayout x = new PageLayout();
        x.sheet(100, 10, 50);
        x.paragraph();
        int[] heights = {11, 10, 2000, 4, 6, 5};
        for (int height : heights) {
            x.sign(5, 0, height);
        }
        CHECKS.dueFilled("higher than the page", x, 1, 1, 1, 2, 1);
        CHECKS.duePages("its end", x, 2, 11, 10, 2000, 10, 5);
        x.shape(0, TOGETHER, 1);
        CHECKS.dueFilled("even if kept together", x, 1, 1, 1, 2, 1);
        x.clear();
        x.paragraph();
        x.shape(0, HEIGHT, 2000);
        CHECKS.dueFilled("an empty one", x, 1);
    }

    /** "It ENDS behind a line whose last sign is a PAGE END" */
    private static void endsBehindAPageEnd() {
        PageLayout x = made(9);
        x.paragraph();
        Checks.write(x, "x/|x|||x");
        CHECKS.dueFilled("page ends", x, 2, 1, 1, 1, 1);
        x.paragraph();
        CHECKS.dueFilled("no PAGE END is its last sign", x, 2, 1, 1, 1, 2);
        PageLayout y = made(9);
        y.paragraph();
        Checks.write(y, "x|");
        CHECKS.dueFilled("as the very last", y, 1);
        y.paragraph();
        CHECKS.dueFilled("and a paragraph behind it", y, 1, 1);
        y.shape(0, NEXT, 1);
        CHECKS.dueFilled("even if kept with it", y, 1, 1);
        PageLayout z = made(9);
        z.paragraph();
        Checks.write(z, "x|x/x|x");
        z.shape(0, TOGETHER, 1);
        z.shape(0, WIDOWS, 1);
        CHECKS.dueFilled("even within what is kept together", z, 1, 2, 1);
    }

    /** A PAGE END that isn't the last sign of a line is none that there could be. */
    private static void pageEndNotLast() {
        PageLayout x = new PageLayout();
        x.sheet(5, 100, 50);
        x.paragraph();
        Checks.write(x, "x-|x");
        CHECKS.dueSplit("a line of its own, as what is ahead is too wide", x, 2, 1, 1);
        CHECKS.duePages("a line of its own", x, 1, 2, 1);
    }

    /** "and ahead of a paragraph with which a page begins" */
    private static void endsAheadOfAParagraph() {
        PageLayout x = made(9, 1, 1, 1, 1);
        CHECKS.dueFilled("none", x, 4);
        x.shape(0, BEGINS, 1);
        CHECKS.dueFilled("the first one", x, 4);
        x.shape(3, BEGINS, 1);
        CHECKS.dueFilled("the last one", x, 3, 1);
        x.shape(1, BEGINS, 1);
        x.shape(2, BEGINS, 1);
        CHECKS.dueFilled("all", x, 1, 1, 1, 1);
        PageLayout y = made(9, 1, 3);
        y.shape(0, NEXT, 1);
        y.shape(1, BEGINS, 1);
        CHECKS.dueFilled("only ahead of its first line, even if kept with it", y, 1, 3);
        PageLayout z = new PageLayout();
        z.paragraph();
        z.paragraph();
        z.shape(1, BEGINS, 1);
        CHECKS.dueFilled("an empty one", z, 1, 1);
    }

    /** "if they are of two paragraphs and the first of these isn't kept with the next one" */
    private static void mayEndBetweenParagraphs() {
        PageLayout x = made(2, 1, 1, 1, 1);
        CHECKS.dueFilled("not kept", x, 2, 2);
        x.shape(1, NEXT, 1);
        CHECKS.dueFilled("the one at the end is kept", x, 1, 2, 1);
        x.shape(1, NEXT, 0);
        x.shape(2, NEXT, 1);
        CHECKS.dueFilled("the one behind it is kept", x, 2, 2);
        x.shape(2, NEXT, 0);
        x.shape(1, TOGETHER, 1);
        x.shape(1, WIDOWS, 1);
        x.shape(2, TOGETHER, 1);
        x.shape(2, WIDOWS, 1);
        CHECKS.dueFilled("together and widows are of one paragraph", x, 2, 2);
    }

    /** "or they are of one that isn't kept together" */
    private static void mayEndWithinAParagraph() {
        PageLayout x = made(3, 2, 3);
        CHECKS.dueFilled("not kept", x, 3, 2);
        x.shape(1, TOGETHER, 1);
        CHECKS.dueFilled("kept", x, 2, 3);
        x.shape(1, TOGETHER, 0);
        x.shape(1, NEXT, 1);
        CHECKS.dueFilled("kept with the next one is not together", x, 3, 2);
        x.shape(1, NEXT, 0);
        x.shape(0, TOGETHER, 1);
        CHECKS.dueFilled("another one is kept", x, 3, 2);
    }

    /** "if widows are forbidden there, the first isn't its first line nor the second its last" */
    private static void widowsForbidden() {
        // Of the places within the paragraph of 5 lines only those behind its second and third.
        int[] want = {1, 3, 4, 4, 6};
        for (int room = 2; room <= 6; room++) {
            PageLayout x = made(room, 1, 5);
            x.lay();
            CHECKS.due("allowed, room for " + room, room, x.page(0, 1));
            x.shape(1, WIDOWS, 1);
            x.lay();
            CHECKS.due("forbidden, room for " + room, want[room - 2], x.page(0, 1));
            Checks.paragraphOf(x, 2);
            x.lay();
            CHECKS.due("another one behind, room for " + room, want[room - 2], x.page(0, 1));
        }
    }

    /** Of 1 line nothing can be parted, of 2 or 3 nothing may. */
    private static void widowsOfFewLines() {
        int[][] want = {{3, 1}, {2, 2}, {2, 3}, {4, 2}};
        int[] room = {3, 3, 4, 4};
        int[][] lines = {{2, 1, 1}, {2, 2}, {2, 3}, {2, 4}};
        for (int i = 0; i < want.length; i++) {
            PageLayout x = made(room[i], lines[i]);
            x.shape(1, WIDOWS, 1);
            CHECKS.dueFilled("widows of case " + i, x, want[i]);
        }
        PageLayout only = made(4, 5);
        only.shape(0, WIDOWS, 1);
        CHECKS.dueFilled("not ahead of the last line of all", only, 3, 2);
        PageLayout alone = made(1, 2);
        alone.shape(0, WIDOWS, 1);
        CHECKS.dueFilled("two lines, room for one", alone, 1, 1);
    }

    /** Of the two lines' paragraphs only the first one's NEXT and the one's own others count. */
    private static void whoseShapeCounts() {
        PageLayout x = made(2, 2, 2);
        x.shape(1, NEXT, 1);
        x.shape(0, TOGETHER, 1);
        x.shape(1, TOGETHER, 1);
        CHECKS.dueFilled("the second one's", x, 2, 2);
        PageLayout y = made(3, 2, 4);
        y.shape(0, WIDOWS, 1);
        y.shape(0, TOGETHER, 1);
        CHECKS.dueFilled("another one's", y, 3, 3);
    }

    /** "A page has the lines up to the first place within or behind those it can have .. ends" */
    private static void firstPlaceWhereItEnds() {
        PageLayout x = made(4);
        x.paragraph();
        Checks.write(x, "x/x|x|x/x/x");
        CHECKS.dueFilled("the first of two", x, 2, 1, 3);
        PageLayout y = made(4, 1, 1, 1, 1, 1);
        y.shape(2, BEGINS, 1);
        y.shape(3, BEGINS, 1);
        CHECKS.dueFilled("the first of two", y, 2, 1, 2);
        PageLayout z = made(4, 3, 3);
        z.shape(1, BEGINS, 1);
        CHECKS.dueFilled("ahead of where it may end", z, 3, 3);
    }

    /** "within or behind": right behind the last one that it can have, but not beyond that. */
    private static void endsRightBehindThoseItCanHave() {
        PageLayout x = made(3, 1);
        x.paragraph();
        Checks.write(x, "x/x|x");
        x.shape(1, TOGETHER, 1);
        CHECKS.dueFilled("right behind them", x, 3, 1);
        x.sheet(100, 16, 50);
        CHECKS.dueFilled("beyond them", x, 1, 2, 1);
        PageLayout y = made(3, 1, 2, 1);
        y.shape(1, NEXT, 1);
        CHECKS.dueFilled("kept", y, 2, 2);
        y.shape(2, BEGINS, 1);
        CHECKS.dueFilled("right ahead of the next paragraph", y, 3, 1);
        y.sheet(100, 16, 50);
        CHECKS.dueFilled("beyond them", y, 2, 1, 1);
    }

    /** "if there is none, and these aren't all that are left" */
    private static void allThatAreLeft() {
        PageLayout x = made(4, 2, 2);
        x.shape(0, NEXT, 0);
        CHECKS.dueFilled("all, though it may end within", x, 4);
        x.shape(0, NEXT, 1);
        x.shape(1, NEXT, 1);
        x.shape(0, TOGETHER, 1);
        x.shape(1, TOGETHER, 1);
        CHECKS.dueFilled("all, kept", x, 4);
        x.sheet(100, 31, 50);
        CHECKS.dueFilled("not all, kept: what it can have", x, 3, 1);
        PageLayout y = made(2, 3);
        CHECKS.dueFilled("all that are left of the last page", y, 2, 1);
    }

    /** "up to the last place within or behind them where it may end" */
    private static void lastPlaceWhereItMayEnd() {
        PageLayout x = made(4, 1, 1, 1, 1, 1);
        CHECKS.dueFilled("right behind them", x, 4, 1);
        x.shape(3, NEXT, 1);
        CHECKS.dueFilled("one ahead", x, 3, 2);
        x.shape(2, NEXT, 1);
        CHECKS.dueFilled("two ahead", x, 2, 3);
        x.shape(1, NEXT, 1);
        CHECKS.dueFilled("behind the first line", x, 1, 4);
        x.shape(0, NEXT, 1);
        CHECKS.dueFilled("nowhere", x, 4, 1);
    }

    /** "otherwise all that it can have" */
    private static void otherwiseAllItCanHave() {
        PageLayout x = made(2, 5);
        x.shape(0, TOGETHER, 1);
        CHECKS.dueFilled("kept together", x, 2, 2, 1);
        PageLayout y = made(2, 3);
        y.shape(0, WIDOWS, 1);
        CHECKS.dueFilled("widows of three lines", y, 2, 1);
        PageLayout z = made(2, 1, 1, 1);
        z.shape(0, NEXT, 1);
        z.shape(1, NEXT, 1);
        CHECKS.dueFilled("kept with the next one", z, 2, 1);
    }

    /** "No page is without lines." */
    private static void noPageWithoutLines() {
        PageLayout x = new PageLayout();
        CHECKS.dueFilled("no lines, no page", x);
        PageLayout y = made(1);
        y.paragraph();
        y.shape(0, BEGINS, 1);
        Checks.write(y, "|");
        y.paragraph();
        y.shape(1, BEGINS, 1);
        Checks.write(y, "|");
        CHECKS.dueFilled("two reasons to end at one place", y, 1, 1);
        PageLayout z = made(1, 1, 1);
        z.shape(0, AFTER, 5000);
        z.shape(1, BEFORE, 5000);
        CHECKS.dueFilled("spaces higher than a page", z, 1, 1);
    }

    /** The most lines that there can be, each on a page of its own (in more than 512 calls). */
    private static void fullOfLines() {
        PageLayout x = new PageLayout();
        x.sheet(1, 1, 1);
        for (int i = 0; i < 29; i++) {
            x.paragraph();
        }
        x.paragraph();
        for (int i = 0; i < 600; i++) {
            x.sign(i % 2 == 0 ? 6 : 3, 2, 0);
        }
        CHECKS.due("pages", 629, x.lay());
        CHECKS.due("lines", 629, x.count(2));
        CHECKS.due("the last line's page", 628, x.line(628, 6));
        CHECKS.due("the last page's first line", 628, x.page(628, 0));
        CHECKS.due("the last page's lines", 1, x.page(628, 1));
        CHECKS.due("the last page's end", 1, x.page(628, 2));
        CHECKS.due("ahead of the last sign", 599, x.hit(628, 0, 9));
        CHECKS.due("behind the last sign", 600, x.hit(628, 1, 9));
    }
}
