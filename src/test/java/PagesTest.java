/** Promises 8, 10, 12 and 13: which lines a page has, where they stand, and what is hit there. */
public final class PagesTest {
    private static final Checks CHECKS = new Checks();

    public static void main(String[] args) {
        noParagraphs();
        filling();
        spaces();
        tallLines();
        pageEnds();
        pageEndsBeyond();
        pageBegins();
        keptWithNext();
        keptTogether();
        widows();
        fewerLines();
        mostLines();
        ruleOrder();
        wrongQuestions();
        hitLines();
        hitSigns();
        hitEnds();
        hitAligned();
        CHECKS.close("PagesTest");
    }

    /** A new object whose pages have room for so many lines of Checks.HEIGHT. */
    private static PageLayout roomFor(int lines) {
        PageLayout x = new PageLayout();
        x.sheet(100, Checks.HEIGHT * lines, 50);
        return x;
    }

    /** How many lines the pages have, these being all the pages. */
    private static void duePages(String told, PageLayout x, int... want) {
        CHECKS.dueFilled(told, x, want);
    }

    private static void noParagraphs() {
        PageLayout x = new PageLayout();
        CHECKS.due("lay() of none", 0, x.lay());
        CHECKS.due("pages of none", 0, x.count(3));
        x.paragraph();
        CHECKS.due("lay() of an empty one", 1, x.lay());
        CHECKS.duePages("an empty one", x, 2, 1);
    }

    private static void filling() {
        PageLayout x = roomFor(3);
        Checks.paragraphOf(x, 4);
        Checks.paragraphOf(x, 4);
        duePages("filling", x, 3, 3, 2);
        CHECKS.duePages("first lines", x, 0, 0, 3, 6);
        CHECKS.duePages("ends at the height", x, 2, 24, 24, 16);
        CHECKS.dueLines("pages", x, 6, 0, 0, 0, 1, 1, 1, 2, 2);
        CHECKS.dueLines("places down", x, 7, 0, 8, 16, 0, 8, 16, 0, 8);
        x.sheet(100, 23, 50);
        duePages("one less high", x, 2, 2, 2, 2);
    }

    private static void spaces() {
        PageLayout x = roomFor(10);
        Checks.paragraphOf(x, 2);
        Checks.paragraphOf(x, 1);
        Checks.paragraphOf(x, 2);
        x.shape(0, 3, 100);
        x.shape(0, 4, 2);
        x.shape(1, 3, 3);
        x.shape(1, 4, 5);
        x.shape(2, 3, 7);
        x.shape(2, 4, 1000);
        duePages("spaces", x, 5);
        CHECKS.dueLines("spaces", x, 7, 0, 8, 21, 41, 49);
        CHECKS.duePages("no space behind the last", x, 2, 57);
        x.sheet(100, 40, 50);
        duePages("the next page", x, 3, 2);
        CHECKS.dueLines("no space ahead of the first", x, 7, 0, 8, 21, 0, 8);
        x.sheet(100, 49, 50);
        duePages("just as high", x, 4, 1);
        x.sheet(100, 48, 50);
        duePages("one less high", x, 3, 2);
    }

    private static void tallLines() {
        PageLayout x = roomFor(1);
        x.paragraph();
        x.sign(0, 1, 9);
        x.sign(5, 1, 1);
        x.sign(0, 1, 2000);
        x.sign(5, 1, 1);
        x.sign(0, 1, 1);
        duePages("one line at least", x, 1, 1, 1);
        CHECKS.duePages("it ends beyond", x, 2, 9, 2000, 1);
        x.shape(0, 7, 1);
        duePages("even if kept together", x, 1, 1, 1);
    }

    private static void pageEnds() {
        PageLayout x = roomFor(5);
        x.paragraph();
        Checks.write(x, "x|x/x|x");
        duePages("page ends", x, 1, 2, 1);
        x.sign(6, 0, 1);
        duePages("no page behind the last one", x, 1, 2, 1);
        x.paragraph();
        duePages("but with a paragraph there is", x, 1, 2, 1, 1);
        PageLayout y = roomFor(5);
        y.paragraph();
        Checks.write(y, "||");
        duePages("nothing but page ends", y, 1, 1);
        y.shape(0, 7, 1);
        y.shape(0, 8, 1);
        duePages("even if kept together", y, 1, 1);
    }

    private static void pageEndsBeyond() {
        PageLayout x = roomFor(2);
        x.paragraph();
        Checks.write(x, "x/x/x|x");
        duePages("beyond those it can have", x, 2, 1, 1);
        x.sheet(100, 24, 50);
        duePages("right behind them", x, 3, 1);
        x.shape(0, 8, 1);
        x.sheet(100, 16, 50);
        duePages("right behind the second page's", x, 2, 1, 1);
        PageLayout y = roomFor(3);
        Checks.paragraphOf(y, 1);
        y.paragraph();
        Checks.write(y, "x/x|x");
        y.shape(1, 7, 1);
        duePages("right behind them, where it may not end", y, 3, 1);
    }

    private static void pageBegins() {
        PageLayout x = roomFor(5);
        Checks.paragraphOf(x, 1);
        Checks.paragraphOf(x, 2);
        Checks.paragraphOf(x, 1);
        x.shape(1, 9, 1);
        duePages("a page begins with it", x, 1, 3);
        x.shape(0, 9, 1);
        duePages("the first page does so anyway", x, 1, 3);
        x.shape(2, 9, 1);
        duePages("each", x, 1, 2, 1);
        x.shape(1, 6, 1);
        duePages("even if kept with the next", x, 1, 2, 1);
        PageLayout y = roomFor(5);
        y.paragraph();
        Checks.write(y, "x|");
        Checks.paragraphOf(y, 1);
        y.shape(1, 9, 1);
        duePages("behind a page end it is one page more", y, 1, 1);
    }

    private static void keptWithNext() {
        PageLayout x = roomFor(3);
        Checks.paragraphOf(x, 2);
        Checks.paragraphOf(x, 1);
        Checks.paragraphOf(x, 1);
        duePages("not kept", x, 3, 1);
        x.shape(1, 6, 1);
        duePages("kept", x, 2, 2);
        x.shape(0, 6, 1);
        duePages("both kept", x, 1, 3);
        x.shape(0, 7, 1);
        duePages("nowhere may it end", x, 3, 1);
        x.shape(2, 6, 1);
        duePages("the last one has no next", x, 3, 1);
        PageLayout y = roomFor(5);
        Checks.paragraphOf(y, 1);
        Checks.paragraphOf(y, 1);
        y.shape(1, 6, 1);
        duePages("all that are left, the last one kept with none", y, 2);
    }

    private static void keptTogether() {
        PageLayout x = roomFor(4);
        Checks.paragraphOf(x, 2);
        Checks.paragraphOf(x, 3);
        duePages("not kept", x, 4, 1);
        x.shape(1, 7, 1);
        duePages("kept", x, 2, 3);
        x.sheet(100, 16, 50);
        duePages("it is higher than a page", x, 2, 2, 1);
        x.sheet(100, 40, 50);
        duePages("all that are left", x, 5);
        x.shape(0, 6, 1);
        x.shape(0, 7, 1);
        duePages("all that are left, kept", x, 5);
    }

    private static void widows() {
        PageLayout x = roomFor(4);
        Checks.paragraphOf(x, 3);
        Checks.paragraphOf(x, 4);
        duePages("allowed", x, 4, 3);
        x.shape(1, 8, 1);
        duePages("not behind the first line", x, 3, 4);
        x.sheet(100, 48, 50);
        duePages("not ahead of the last line", x, 5, 2);
        x.sheet(100, 40, 50);
        duePages("in the middle", x, 5, 2);
        PageLayout y = roomFor(2);
        Checks.paragraphOf(y, 1);
        Checks.paragraphOf(y, 3);
        y.shape(1, 8, 1);
        duePages("three lines can't be parted but by force", y, 1, 2, 1);
        PageLayout z = roomFor(2);
        Checks.paragraphOf(z, 2);
        Checks.paragraphOf(z, 2);
        z.shape(0, 8, 1);
        z.shape(1, 8, 1);
        duePages("first and last lines next to paragraphs", z, 2, 2);
        PageLayout first = roomFor(4);
        Checks.paragraphOf(first, 5);
        Checks.paragraphOf(first, 2);
        first.shape(0, 8, 1);
        duePages("not ahead of the last line, with a paragraph behind", first, 3, 4);
    }

    /** A layout with fewer lines than the one before it. */
    private static void fewerLines() {
        PageLayout x = Checks.written(10, "x x x x x x x x");
        x.shape(0, 8, 1);
        x.lay();
        CHECKS.due("narrow", 8, x.count(2));
        x.sheet(24, 24, 50);
        duePages("wide", x, 2, 2);
        CHECKS.thrown("line(4, 0)", Checks.NO_SUCH, () -> x.line(4, 0));
    }

    /** More calls than are promised, but no call may ever fail by itself. */
    private static void mostLines() {
        PageLayout x = roomFor(1);
        x.paragraph();
        for (int i = 0; i < 600; i++) {
            x.sign(5, 0, 8);
        }
        for (int i = 0; i < 29; i++) {
            x.paragraph();
            x.shape(i + 1, 10, 8);
        }
        CHECKS.due("the most pages", 629, x.lay());
        CHECKS.due("the most lines", 629, x.count(2));
        CHECKS.due("the last page", 628, x.page(628, 0));
        CHECKS.due("behind all signs", 600, x.hit(628, 0, 0));
    }

    private static void ruleOrder() {
        PageLayout x = roomFor(4);
        Checks.paragraphOf(x, 1);
        Checks.paragraphOf(x, 1);
        Checks.paragraphOf(x, 3);
        x.shape(1, 9, 1);
        x.shape(2, 7, 1);
        duePages("where it ends goes before where it may", x, 1, 4);
        PageLayout y = roomFor(4);
        y.paragraph();
        Checks.write(y, "x|x|x/x/x");
        duePages("the first place where it ends", y, 1, 1, 3);
        PageLayout z = roomFor(3);
        Checks.paragraphOf(z, 5);
        Checks.paragraphOf(z, 2);
        z.shape(0, 8, 1);
        duePages("the last place where it may end", z, 3, 3, 1);
        z.shape(0, 6, 1);
        duePages("kept with the next one's first line", z, 3, 3, 1);
    }

    private static void wrongQuestions() {
        PageLayout x = roomFor(1);
        Checks.paragraphOf(x, 2);
        x.lay();
        CHECKS.thrown("page(2, 0)", Checks.NO_SUCH, () -> x.page(2, 0));
        CHECKS.thrown("page(-1, 0)", Checks.NO_SUCH, () -> x.page(-1, 0));
        CHECKS.thrown("page(2, 3)", Checks.NO_SUCH, () -> x.page(2, 3));
        CHECKS.thrown("page(1, 3)", Checks.ARGUMENT, () -> x.page(1, 3));
        CHECKS.thrown("page(1, -1)", Checks.ARGUMENT, () -> x.page(1, -1));
        CHECKS.thrown("hit(2, 0, 0)", Checks.NO_SUCH, () -> x.hit(2, 0, 0));
        CHECKS.thrown("hit(-1, 0, 0)", Checks.NO_SUCH, () -> x.hit(-1, 0, 0));
        CHECKS.due("page(1, 0)", 1, x.page(1, 0));
    }

    private static void hitLines() {
        PageLayout x = roomFor(3);
        Checks.paragraphOf(x, 2);
        Checks.paragraphOf(x, 2);
        x.shape(1, 3, 4);
        x.sheet(100, 28, 50);
        duePages("hit", x, 3, 1);
        CHECKS.due("above all", 0, x.hit(0, 0, -9));
        CHECKS.due("far above all", 0, x.hit(0, 0, Integer.MIN_VALUE));
        CHECKS.due("at the top", 0, x.hit(0, 0, 0));
        CHECKS.due("in the first", 0, x.hit(0, 0, 7));
        CHECKS.due("where the second begins", 2, x.hit(0, 0, 8));
        CHECKS.due("in the space between", 2, x.hit(0, 0, 19));
        CHECKS.due("where the third begins", 3, x.hit(0, 0, 20));
        CHECKS.due("below all", 3, x.hit(0, 0, Integer.MAX_VALUE));
        CHECKS.due("on the next page", 5, x.hit(1, 0, 0));
        CHECKS.due("below all on the next page", 5, x.hit(1, 0, 500));
    }

    private static void hitSigns() {
        PageLayout x = Checks.written(25, "xi xx");
        x.lay();
        CHECKS.due("far left", 0, x.hit(0, Integer.MIN_VALUE, 0));
        CHECKS.due("ahead of the middle", 0, x.hit(0, 4, 0));
        CHECKS.due("in the middle", 1, x.hit(0, 5, 0));
        CHECKS.due("half of 3 goes down", 1, x.hit(0, 10, 0));
        CHECKS.due("half of 3 goes down", 2, x.hit(0, 11, 0));
        CHECKS.due("a trailing one", 2, x.hit(0, 14, 0));
        CHECKS.due("behind the last", 3, x.hit(0, 15, 0));
        CHECKS.due("far right", 3, x.hit(0, Integer.MAX_VALUE, 0));
        CHECKS.due("behind the last of all", 5, x.hit(0, 15, 8));
        PageLayout tab = Checks.written(100, ">~x");
        tab.lay();
        CHECKS.due("a tab's middle", 0, tab.hit(0, 24, 0));
        CHECKS.due("a soft hyphen of no width", 1, tab.hit(0, 25, 0));
        CHECKS.due("a soft hyphen of no width", 1, tab.hit(0, 49, 0));
        CHECKS.due("behind it", 2, tab.hit(0, 50, 0));
    }

    private static void hitEnds() {
        PageLayout x = Checks.written(100, "x/x|//");
        x.lay();
        CHECKS.due("a line end isn't behind", 1, x.hit(0, 99, 0));
        CHECKS.due("a line end at its place", 1, x.hit(0, 10, 0));
        CHECKS.due("a page end", 3, x.hit(0, 99, 8));
        CHECKS.due("a line end alone", 4, x.hit(1, 99, 0));
        CHECKS.due("a line end alone, from the left", 4, x.hit(1, -99, 0));
        CHECKS.due("the last line end", 5, x.hit(1, 99, 8));
        PageLayout empty = Checks.written(100, "xx");
        empty.paragraph();
        empty.paragraph();
        empty.sign(0, 9, 9);
        empty.lay();
        CHECKS.due("an empty line", 2, empty.hit(0, 0, 8));
        CHECKS.due("an empty line", 2, empty.hit(0, 99, 8));
        CHECKS.due("the line behind it", 3, empty.hit(0, 99, 9));
    }

    private static void hitAligned() {
        PageLayout x = Checks.written(100, "xx");
        x.shape(0, 5, 1);
        x.lay();
        CHECKS.due("right", 0, x.hit(0, 84, 0));
        CHECKS.due("right", 1, x.hit(0, 85, 0));
        CHECKS.due("right", 2, x.hit(0, 95, 0));
        PageLayout y = Checks.written(34, "x x xxx");
        y.shape(0, 5, 3);
        y.lay();
        CHECKS.due("a wide gap", 1, y.hit(0, 16, 0));
        CHECKS.due("a wide gap", 2, y.hit(0, 17, 0));
    }
}
