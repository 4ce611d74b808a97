/** Promises 8, 10 and 11: which signs a line has, where they stand, and how it is aligned. */
public final class LinesTest {
    private static final Checks CHECKS = new Checks();

    public static void main(String[] args) {
        breaks();
        fitting();
        trailing();
        softHyphens();
        lineEnds();
        tabBreaks();
        indents();
        steps();
        ownStops();
        stopsThatEndAndCentre();
        stopsAndTrailing();
        stopsAndSoftHyphens();
        emptyParagraphs();
        alignedRightAndMiddle();
        alignedToBothSides();
        gapsAreNot();
        heights();
        wrongQuestions();
        CHECKS.close("LinesTest");
    }

    /** How many signs the lines of a paragraph have, that being all its lines. */
    private static PageLayout dueSplit(String told, int wide, String text, int... want) {
        PageLayout x = Checks.written(wide, text);
        dueSplit(told, x, want);
        return x;
    }

    private static void dueSplit(String told, PageLayout x, int... want) {
        CHECKS.dueSplit(told, x, want);
    }

    private static void breaks() {
        dueSplit("behind a blank", 25, "xx xx", 3, 2);
        dueSplit("behind a hyphen", 26, "xx-xx", 3, 2);
        dueSplit("behind a soft hyphen", 26, "xx~xx", 3, 2);
        dueSplit("ahead of a tab", 25, "xx>x", 2, 2);
        dueSplit("nowhere else", 5, "xxxx", 4);
        dueSplit("behind the last sign", 500, "xxxx", 4);
        PageLayout x = dueSplit("first signs", 25, "xx xx xx", 3, 3, 2);
        CHECKS.dueLines("first signs", x, 1, 0, 3, 6);
        CHECKS.dueSigns("lines of signs", x, 0, 0, 0, 0, 1, 1, 1, 2, 2);
        CHECKS.dueSigns("each line begins anew", x, 1, 0, 10, 20, 0, 10, 20, 0, 10);
        CHECKS.dueSigns("widths", x, 2, 10, 10, 4, 10, 10, 4, 10, 10);
    }

    private static void fitting() {
        dueSplit("just fits", 44, "xx xx", 5);
        dueSplit("one too wide", 43, "xx xx", 3, 2);
        PageLayout x = Checks.written(54, "xx xx");
        x.shape(0, 1, 10);
        dueSplit("just fits with right", x, 5);
        x.shape(0, 1, 11);
        dueSplit("one too wide with right", x, 3, 2);
        x.shape(0, 1, 5000);
        dueSplit("no room at all", x, 3, 2);
        dueSplit("a hyphen's width counts", 25, "x xx-x", 2, 3, 1);
        dueSplit("too wide: up to the first break", 5, "xx xx xx", 3, 3, 2);
        dueSplit("the last break that fits", 40, "x x x x", 6, 1);
    }

    private static void trailing() {
        PageLayout x = dueSplit("blanks hang", 20, "xx    xx  ", 6, 4);
        CHECKS.dueLines("end without trailing ones", x, 4, 20, 20);
        CHECKS.due("they are as wide as they are", 4, x.where(5, 2));
        CHECKS.due("and stand behind", 32, x.where(5, 1));
        x = dueSplit("nothing but blanks", 3, "   ", 3);
        CHECKS.dueLines("end of nothing but blanks", x, 4, 0);
        x = dueSplit("blanks between hyphens", 30, "x ~ ", 4);
        CHECKS.dueLines("a soft hyphen behind a blank", x, 4, 14);
        dueSplit("too wide: a blank begins the next one", 5, "x  x", 2, 1, 1);
    }

    private static void softHyphens() {
        PageLayout x = dueSplit("within", 40, "x~x~x~x", 7);
        CHECKS.dueSigns("within", x, 2, 10, 0, 10, 0, 10, 0, 10);
        CHECKS.dueSigns("within", x, 1, 0, 10, 10, 20, 20, 30, 30);
        x = dueSplit("as the last one", 26, "xx~xx", 3, 2);
        CHECKS.dueSigns("as the last one", x, 2, 10, 10, 6, 10, 10);
        CHECKS.dueLines("as the last one", x, 4, 26, 20);
        dueSplit("it doesn't fit", 25, "x xx~xx", 2, 3, 2);
        dueSplit("it doesn't fit behind one that does", 25, "x~x~xx", 2, 2, 2);
        dueSplit("it doesn't fit, but what is behind does", 24, "xx~i xx", 5, 2);
        x = dueSplit("ahead of a line end", 26, "xx~/", 4);
        CHECKS.dueLines("ahead of a line end", x, 4, 20);
        x = dueSplit("as the paragraph's last", 40, "xx~", 3);
        CHECKS.dueLines("as the paragraph's last", x, 4, 26);
        x = dueSplit("ahead of trailing blanks", 40, "xx~ ", 4);
        CHECKS.dueLines("ahead of trailing blanks", x, 4, 20);
    }

    private static void lineEnds() {
        PageLayout x = dueSplit("line ends", 100, "x/x|//x", 2, 2, 1, 1, 1);
        CHECKS.dueSigns("they are 0 wide", x, 2, 10, 0, 10, 0, 0, 0, 10);
        CHECKS.dueSigns("they stand behind", x, 1, 0, 10, 0, 10, 0, 0, 0);
        CHECKS.dueLines("ends", x, 4, 10, 10, 0, 0, 10);
        x = dueSplit("blanks ahead of it trail", 10, "x  /x", 4, 1);
        CHECKS.dueLines("blanks ahead of it trail", x, 4, 10, 10);
        CHECKS.due("it stands behind them", 18, x.where(3, 1));
        dueSplit("no line behind a last one", 100, "x/", 2);
        dueSplit("too wide: it stands alone", 5, "x-/x", 2, 1, 1);
    }

    private static void tabBreaks() {
        dueSplit("no line is empty", 5, ">x>x", 2, 2);
        dueSplit("a tab alone", 5, ">>>", 1, 1, 1);
        PageLayout x = dueSplit("a tab at the end", 60, "x>", 2);
        CHECKS.dueLines("a tab at the end", x, 4, 50);
        x = dueSplit("a blank ahead of a tab", 30, "x >x", 2, 2);
        CHECKS.dueLines("a blank ahead of a tab on the next line", x, 4, 10, 60);
        x = dueSplit("a blank ahead of a tab", 60, "x >x", 4);
        CHECKS.dueSigns("a blank ahead of a tab", x, 1, 0, 10, 14, 50);
    }

    private static void indents() {
        PageLayout x = Checks.written(40, "xx xx xx");
        x.shape(0, 0, 12);
        x.shape(0, 2, 3);
        dueSplit("left and first", x, 3, 3, 2);
        CHECKS.dueLines("left and first", x, 3, 15, 12, 12);
        CHECKS.dueLines("left and first", x, 4, 35, 32, 32);
        CHECKS.dueSigns("left and first", x, 1, 15, 25, 35, 12, 22, 32, 12, 22);
        x.shape(0, 2, -12);
        x.lay();
        CHECKS.dueLines("first below left", x, 3, 0, 12, 12);
        x.shape(0, 2, -13);
        x.lay();
        CHECKS.dueLines("first below 0", x, 3, 0, 12, 12);
        x.shape(0, 0, 50);
        x.shape(0, 2, 0);
        dueSplit("left of no room", x, 3, 3, 2);
        CHECKS.dueLines("left of no room", x, 4, 70, 70, 70);
        x = Checks.written(44, "    xx");
        x.shape(0, 0, 45);
        dueSplit("blanks that begin beyond", x, 1, 1, 1, 1, 2);
        x.shape(0, 0, 44);
        dueSplit("blanks that begin at the end", x, 4, 2);
    }

    private static void steps() {
        PageLayout x = dueSplit("steps", 300, "xxxxx>x>>x", 10);
        CHECKS.due("a stop is above the place", 50, x.where(5, 2));
        CHECKS.due("the next one", 110, x.where(7, 1));
        CHECKS.due("the next one", 40, x.where(7, 2));
        CHECKS.due("the next one", 50, x.where(8, 2));
        x.shape(0, 0, 30);
        x.lay();
        CHECKS.due("places count from the page's edge", 20, x.where(5, 2));
    }

    private static void ownStops() {
        PageLayout x = dueSplit("own stops", 300, ">>>x", 4);
        x.stop(0, 20, 0);
        x.stop(0, 120, 0);
        x.lay();
        CHECKS.dueSigns("own ones, then the steps above the last", x, 2, 20, 100, 30, 10);
        PageLayout y = Checks.written(300, ">>x");
        y.stop(0, 100, 0);
        y.lay();
        CHECKS.dueSigns("a step at the last one is none", y, 2, 100, 50, 10);
        y.paragraph();
        Checks.write(y, ">");
        y.lay();
        CHECKS.due("stops are of one paragraph", 50, y.where(3, 2));
        PageLayout all = Checks.written(300, ">>>>>>>>>x");
        for (int i = 1; i <= 8; i++) {
            all.stop(0, i * 20, i % 3);
        }
        all.lay();
        CHECKS.due("the last of 8", 160, all.where(8, 1));
        CHECKS.due("a step behind 8", 40, all.where(8, 2));
        all.clear();
        all.paragraph();
        Checks.write(all, ">x");
        all.lay();
        CHECKS.due("a step where a stop was", 50, all.where(0, 2));
        all.sheet(300, 100, 1);
        all.lay();
        CHECKS.due("the least step", 1, all.where(0, 2));
    }

    private static void stopsThatEndAndCentre() {
        PageLayout x = Checks.written(300, "x>xi x>xii");
        x.stop(0, 80, 1);
        x.stop(0, 140, 2);
        x.lay();
        CHECKS.dueSigns("ends there, has its middle there", x, 1,
            0, 10, 53, 63, 66, 70, 80, 132, 142, 145);
        CHECKS.due("43 wide", 43, x.where(1, 2));
        CHECKS.due("half of 16", 52, x.where(6, 2));
        PageLayout odd = Checks.written(300, ">iii");
        odd.stop(0, 100, 2);
        odd.lay();
        CHECKS.due("half of 9 goes down", 96, odd.where(0, 2));
        PageLayout full = Checks.written(300, "xx>xxxx>x");
        full.stop(0, 25, 1);
        full.stop(0, 75, 2);
        full.lay();
        CHECKS.due("never less than 0", 0, full.where(2, 2));
        CHECKS.due("then each begins behind", 20, full.where(3, 1));
        CHECKS.due("then each begins behind", 10, full.where(7, 2));
        CHECKS.due("then each begins behind", 70, full.where(8, 1));
        PageLayout far = Checks.written(300, "xx>xxxx");
        far.stop(0, 25, 2);
        far.lay();
        CHECKS.due("the middle is never less than 0", 0, far.where(2, 2));
    }

    private static void stopsAndTrailing() {
        PageLayout x = Checks.written(300, "x>xx  /");
        x.stop(0, 80, 1);
        x.lay();
        CHECKS.due("trailing ones don't count", 50, x.where(1, 2));
        CHECKS.dueLines("end", x, 4, 80);
        CHECKS.due("they stand behind", 84, x.where(5, 1));
        PageLayout only = Checks.written(300, "x>  ");
        only.stop(0, 80, 1);
        only.lay();
        CHECKS.due("nothing but trailing ones", 70, only.where(1, 2));
        CHECKS.dueLines("nothing but trailing ones", only, 4, 80);
        PageLayout two = Checks.written(300, ">x >x");
        two.stop(0, 80, 1);
        two.lay();
        CHECKS.due("blanks ahead of a tab count", 66, two.where(0, 2));
        PageLayout apart = Checks.written(100, ">x >x");
        apart.stop(0, 80, 1);
        apart.stop(0, 120, 0);
        dueSplit("a tab of the next line", apart, 3, 2);
        CHECKS.due("is none of this line", 70, apart.where(0, 2));
        CHECKS.dueLines("is none of this line", apart, 4, 80, 80);
    }

    private static void stopsAndSoftHyphens() {
        PageLayout x = Checks.written(300, ">x~x~");
        x.stop(0, 80, 1);
        x.lay();
        CHECKS.due("the last one counts", 54, x.where(0, 2));
        PageLayout within = Checks.written(300, ">x~x");
        within.stop(0, 80, 1);
        within.lay();
        CHECKS.due("one within doesn't", 60, within.where(0, 2));
        PageLayout y = Checks.written(79, ">xxxx~xxx~x x");
        y.stop(0, 50, 1);
        dueSplit("a tab gives way", y, 10, 3);
        CHECKS.due("up to 0", 0, y.where(0, 2));
        CHECKS.dueLines("up to 0", y, 4, 76, 24);
    }

    private static void emptyParagraphs() {
        PageLayout x = Checks.written(100, "");
        x.paragraph();
        Checks.write(x, "xx");
        x.paragraph();
        x.shape(2, 0, 30);
        x.shape(2, 2, -10);
        x.shape(2, 10, 20);
        dueSplit("a paragraph without signs", x, 0, 2, 0);
        CHECKS.dueLines("its paragraph", x, 0, 0, 1, 2);
        CHECKS.dueLines("its first sign", x, 1, 0, 0, 2);
        CHECKS.dueLines("where it begins", x, 3, 0, 0, 20);
        CHECKS.dueLines("where it ends", x, 4, 0, 20, 20);
        CHECKS.dueLines("its height", x, 5, 1, 8, 20);
        x.shape(2, 5, 3);
        x.lay();
        CHECKS.dueLines("it has no gaps", x, 9, 0, 0, 0);
        x.shape(2, 5, 1);
        x.lay();
        CHECKS.dueLines("its rest", x, 8, 0, 0, 80);
    }

    private static void alignedRightAndMiddle() {
        PageLayout x = Checks.written(53, "xx xx xx ");
        x.shape(0, 0, 5);
        x.shape(0, 1, 3);
        x.shape(0, 5, 1);
        dueSplit("right", x, 6, 3);
        CHECKS.dueLines("moved", x, 8, 1, 25);
        CHECKS.dueLines("wider", x, 9, 0, 0);
        CHECKS.dueLines("where it begins isn't moved", x, 3, 5, 5);
        CHECKS.dueLines("its end isn't moved", x, 4, 49, 25);
        CHECKS.dueSigns("moved", x, 1, 6, 16, 26, 30, 40, 50, 30, 40, 50);
        x.shape(0, 5, 2);
        x.lay();
        CHECKS.dueLines("half goes down", x, 8, 0, 12);
        CHECKS.dueSigns("half goes down", x, 1, 5, 15, 25, 29, 39, 49, 17, 27, 37);
        x.shape(0, 1, 40);
        x.lay();
        CHECKS.dueLines("no rest below 0", x, 8, 0, 0, 0);
        x.shape(0, 5, 1);
        x.lay();
        CHECKS.dueLines("no rest below 0", x, 8, 0, 0, 0);
    }

    private static void alignedToBothSides() {
        PageLayout x = Checks.written(47, "x x x x x");
        x.shape(0, 5, 3);
        dueSplit("both sides", x, 6, 3);
        CHECKS.dueLines("wider all together", x, 9, 9, 0);
        CHECKS.dueLines("not moved", x, 8, 0, 0);
        CHECKS.dueLines("the end is as it was", x, 4, 38, 24);
        CHECKS.dueSigns("the first one is wider by 1 more", x, 2, 10, 9, 10, 8, 10, 4, 10, 4, 10);
        CHECKS.dueSigns("places", x, 1, 0, 10, 19, 29, 37, 47, 0, 10, 14);
    }

    private static void gapsAreNot() {
        PageLayout x = Checks.written(100, "x x >x x xxxxx xxxxx");
        x.shape(0, 5, 3);
        dueSplit("behind the last tab", x, 9, 6, 5);
        CHECKS.dueLines("behind the last tab", x, 9, 26, 0, 0);
        CHECKS.dueSigns("behind the last tab", x, 2, 10, 4, 10, 4, 22, 10, 30, 10, 4);
        PageLayout ahead = Checks.written(30, "x x>x x");
        ahead.shape(0, 5, 3);
        dueSplit("ahead of a tab", ahead, 3, 3, 1);
        CHECKS.dueLines("ahead of a tab", ahead, 9, 6, 0, 0);
        CHECKS.due("ahead of a tab", 10, ahead.where(1, 2));
        PageLayout ends = Checks.written(100, "x x/x x|x x");
        ends.shape(0, 5, 3);
        ends.lay();
        CHECKS.dueLines("ahead of ends", ends, 9, 0, 0, 0);
        CHECKS.due("ahead of ends", 4, ends.where(1, 2));
        PageLayout none = Checks.written(25, "x- xx");
        none.shape(0, 5, 3);
        none.lay();
        CHECKS.dueLines("no gaps", none, 9, 0, 0);
        PageLayout wide = Checks.written(15, "xx xx");
        wide.shape(0, 5, 3);
        wide.lay();
        CHECKS.dueLines("no rest", wide, 9, 0, 0);
        PageLayout lead = Checks.written(30, "  x xx");
        lead.shape(0, 5, 3);
        dueSplit("blanks at the beginning", lead, 4, 2);
        CHECKS.dueSigns("blanks at the beginning are gaps", lead, 2, 10, 10, 10, 4, 10, 10);
    }

    private static void heights() {
        PageLayout x = new PageLayout();
        x.sheet(20, 100, 10);
        x.paragraph();
        x.sign(0, 10, 3);
        x.sign(1, 10, 9);
        x.sign(1, 10, 4);
        x.sign(0, 20, 5);
        x.sign(4, 0, 7);
        x.sign(5, 0, 6);
        x.sign(0, 1, 0);
        dueSplit("heights", x, 3, 3, 1);
        CHECKS.dueLines("the greatest", x, 5, 9, 7, 1);
        CHECKS.dueLines("places down", x, 7, 0, 9, 16);
        x.shape(0, 10, 8);
        x.lay();
        CHECKS.dueLines("the least", x, 5, 9, 8, 8);
    }

    private static void wrongQuestions() {
        PageLayout x = Checks.written(25, "xx xx");
        x.lay();
        CHECKS.thrown("line(2, 0)", Checks.NO_SUCH, () -> x.line(2, 0));
        CHECKS.thrown("line(-1, 0)", Checks.NO_SUCH, () -> x.line(-1, 0));
        CHECKS.thrown("line(2, 10)", Checks.NO_SUCH, () -> x.line(2, 10));
        CHECKS.thrown("line(1, 10)", Checks.ARGUMENT, () -> x.line(1, 10));
        CHECKS.thrown("line(1, -1)", Checks.ARGUMENT, () -> x.line(1, -1));
        CHECKS.thrown("where(5, 0)", Checks.NO_SUCH, () -> x.where(5, 0));
        CHECKS.thrown("where(-1, 0)", Checks.NO_SUCH, () -> x.where(-1, 0));
        CHECKS.thrown("where(5, 3)", Checks.NO_SUCH, () -> x.where(5, 3));
        CHECKS.thrown("where(4, 3)", Checks.ARGUMENT, () -> x.where(4, 3));
        CHECKS.thrown("where(4, -1)", Checks.ARGUMENT, () -> x.where(4, -1));
        for (int what = 0; what < 10; what++) {
            int asked = what;
            CHECKS.nothingThrown("line(0, " + what + ")", () -> x.line(0, asked));
        }
    }
}
