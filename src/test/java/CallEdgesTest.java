/** The edges that the promises 1 to 13 name themselves, each promise with its own tests. */
public final class CallEdgesTest {
    private static final Checks CHECKS = new Checks();
    private static final int LEAST = Integer.MIN_VALUE;
    private static final int MOST = Integer.MAX_VALUE;

    public static void main(String[] args) {
        aNewObject();
        clearTakesAllParagraphs();
        clearLeavesThePage();
        paragraphWithoutSigns();
        signOfTheLastParagraph();
        signWithoutParagraphs();
        shapeOfOneParagraph();
        stopNotAboveTheLastOne();
        stopIfItHas8();
        sheetRanges();
        layTwice();
        layOfNothing();
        countOfWhat();
        lineFirstSign();
        lineWithoutAlignment();
        whereOfTrailingOnes();
        whereIfNothingIsLaidOut();
        pageOfWhat();
        hitLastLineThatBegins();
        hitFirstLineIfNoneDoes();
        hitMiddle();
        hitMiddleOfMovedOnes();
        hitAnEnd();
        hitTheSignBehind();
        hitTrailingOnes();
        CHECKS.close("CallEdgesTest");
    }

    /** Promise 1: "No paragraphs; nothing is laid out." */
    private static void aNewObject() {
        PageLayout x = new PageLayout();
        for (int what = 0; what <= 3; what++) {
            CHECKS.due("new: count(" + what + ")", 0, x.count(what));
        }
        CHECKS.thrown("new: sign", Checks.NO_SUCH, () -> x.sign(0, 0, 0));
        CHECKS.thrown("new: shape", Checks.NO_SUCH, () -> x.shape(0, 0, 0));
        CHECKS.thrown("new: stop", Checks.NO_SUCH, () -> x.stop(0, 1, 0));
        CHECKS.thrown("new: line", Checks.NO_SUCH, () -> x.line(0, 0));
        CHECKS.thrown("new: where", Checks.NO_SUCH, () -> x.where(0, 0));
        CHECKS.thrown("new: page", Checks.NO_SUCH, () -> x.page(0, 0));
        CHECKS.thrown("new: hit", Checks.NO_SUCH, () -> x.hit(0, 0, 0));
        PageLayout other = new PageLayout();
        other.paragraph();
        other.sheet(1, 1, 1);
        CHECKS.due("another object's paragraph is none of it", 0, x.count(0));
        x.paragraph();
        x.sign(2, 0, 0);
        x.lay();
        CHECKS.due("another object's page is none of it", 700, x.where(0, 2));
    }

    /** Promise 2: "All paragraphs go": their signs, shapes and stops with them, and the layout. */
    private static void clearTakesAllParagraphs() {
        PageLayout x = new PageLayout();
        x.clear();
        CHECKS.due("clear() of a new one", 0, x.count(0));
        for (int i = 0; i < 30; i++) {
            x.paragraph();
            for (int what = 0; what <= 10; what++) {
                x.shape(i, what, 1);
            }
            for (int stop = 1; stop <= 8; stop++) {
                x.stop(i, stop, stop % 3);
            }
            for (int sign = 0; sign < 20; sign++) {
                x.sign(sign % 7, 99, 99);
            }
        }
        x.lay();
        x.clear();
        for (int what = 0; what <= 3; what++) {
            CHECKS.due("cleared: count(" + what + ")", 0, x.count(what));
        }
        x.clear();
        CHECKS.due("cleared twice: lay()", 0, x.lay());
        PageLayout fresh = new PageLayout();
        for (PageLayout each : new PageLayout[] {x, fresh}) {
            for (int i = 0; i < 30; i++) {
                each.paragraph();
                Checks.write(each, "x >x~x/xx|x-x");
            }
            each.lay();
        }
        CHECKS.due("as if it were new", Answers.ofAll(fresh), Answers.ofAll(x));
        CHECKS.due("stops from the first one on", 1, x.stop(29, 1, 0));
    }

    /** Promise 2: "the page stays" */
    private static void clearLeavesThePage() {
        PageLayout x = new PageLayout();
        x.sheet(21, 9, 11);
        x.clear();
        x.paragraph();
        Checks.write(x, "x-x>");
        CHECKS.dueSplit("21 wide", x, 2, 2);
        CHECKS.due("a step of 11", 1, x.where(3, 2));
        CHECKS.duePages("9 high", x, 1, 1, 1);
    }

    /** Promise 3: "One more paragraph, without signs: its number." */
    private static void paragraphWithoutSigns() {
        PageLayout x = new PageLayout();
        CHECKS.due("the first", 0, x.paragraph());
        x.sign(0, 1, 1);
        CHECKS.due("the second", 1, x.paragraph());
        CHECKS.due("no sign came with it", 1, x.count(1));
        x.lay();
        CHECKS.dueLines("signs", x, 2, 1, 0);
    }

    /** Promise 4: "One more sign of the last paragraph: its number." */
    private static void signOfTheLastParagraph() {
        PageLayout x = new PageLayout();
        x.paragraph();
        CHECKS.due("the first", 0, x.sign(0, 1, 1));
        x.paragraph();
        x.paragraph();
        CHECKS.due("the second", 1, x.sign(0, 2, 1));
        CHECKS.due("the third", 2, x.sign(0, 3, 1));
        CHECKS.dueSplit("in the last", x, 1, 0, 2);
        CHECKS.dueSigns("in this order", x, 2, 1, 2, 3);
    }

    /** Promise 4: "NoSuchElementException: there are no paragraphs." */
    private static void signWithoutParagraphs() {
        PageLayout x = new PageLayout();
        int[][] any = {{0, 0, 0}, {-1, 0, 0}, {7, 4001, 2001}, {LEAST, LEAST, LEAST},
            {MOST, MOST, MOST}};
        for (int[] each : any) {
            CHECKS.thrown("new", Checks.NO_SUCH, () -> x.sign(each[0], each[1], each[2]));
        }
        x.paragraph();
        x.sign(0, 0, 0);
        x.clear();
        for (int[] each : any) {
            CHECKS.thrown("cleared", Checks.NO_SUCH, () -> x.sign(each[0], each[1], each[2]));
        }
        CHECKS.due("no signs", 0, x.count(1));
    }

    /** Promise 5: "A paragraph's shape gets a value", no other one's, and the latest holds. */
    private static void shapeOfOneParagraph() {
        PageLayout x = new PageLayout();
        for (int i = 0; i < 3; i++) {
            x.paragraph();
        }
        x.shape(1, 10, 7);
        x.shape(1, 0, 3);
        x.shape(2, 10, 9);
        x.shape(2, 10, 8);
        x.lay();
        CHECKS.dueLines("heights", x, 5, 1, 7, 8);
        CHECKS.dueLines("lefts", x, 3, 0, 3, 0);
        for (int which : new int[] {LEAST, -1, 3, 29, 30, MOST}) {
            CHECKS.thrown("shape(" + which + ", ..)", Checks.NO_SUCH, () -> x.shape(which, 0, 0));
        }
        for (int what : new int[] {LEAST, -1, 11, MOST}) {
            CHECKS.thrown("shape(2, " + what + ", ..)", Checks.ARGUMENT,
                () -> x.shape(2, what, 0));
        }
        CHECKS.dueLines("still laid out", x, 5, 1, 7, 8);
    }

    /** Promise 6: "IllegalArgumentException: also if place isn't above its last one" */
    private static void stopNotAboveTheLastOne() {
        PageLayout x = Checks.written(1000, ">>>");
        x.paragraph();
        CHECKS.due("the first", 1, x.stop(0, 100, 0));
        for (int place : new int[] {LEAST, -1, 0, 1, 99, 100}) {
            CHECKS.thrown("stop(0, " + place + ", 0)", Checks.ARGUMENT, () -> x.stop(0, place, 0));
        }
        CHECKS.due("above it", 2, x.stop(0, 101, 0));
        CHECKS.due("another paragraph's last one is none", 1, x.stop(1, 1, 0));
        CHECKS.thrown("the latest one counts", Checks.ARGUMENT, () -> x.stop(0, 101, 0));
        x.lay();
        CHECKS.dueSigns("what was refused is no stop", x, 2, 100, 1, 49);
    }

    /** Promise 6: "IllegalStateException: it has 8." */
    private static void stopIfItHas8() {
        PageLayout x = Checks.written(30000, ">>>>>>>>>");
        x.sheet(30000, 100, 7);
        for (int i = 1; i <= 7; i++) {
            x.stop(0, i, 0);
        }
        CHECKS.due("the 8th", 8, x.stop(0, 29999, 0));
        CHECKS.thrown("the 9th", Checks.STATE, () -> x.stop(0, 30000, 0));
        CHECKS.thrown("the 9th, not above", Checks.ARGUMENT, () -> x.stop(0, 29999, 0));
        CHECKS.thrown("the 9th, too far", Checks.ARGUMENT, () -> x.stop(0, 30001, 0));
        CHECKS.thrown("the 9th, of no kind", Checks.ARGUMENT, () -> x.stop(0, 30000, 3));
        CHECKS.thrown("the 9th, of no paragraph", Checks.NO_SUCH, () -> x.stop(1, 30000, 3));
        CHECKS.dueSplit("the 9th is none", x, 8, 1);
        PageLayout y = new PageLayout();
        y.paragraph();
        for (int i = 29993; i <= 30000; i++) {
            y.stop(0, i, 2);
        }
        for (int place : new int[] {LEAST, 0, 30000, 30001, MOST}) {
            CHECKS.thrown("no place is above 30000", Checks.ARGUMENT, () -> y.stop(0, place, 0));
        }
    }

    /** Promise 7: "wide (1 .. 30000), high (1 .. 30000), step (1 .. 30000)" */
    private static void sheetRanges() {
        PageLayout x = new PageLayout();
        x.sheet(7, 9, 11);
        for (int at = 0; at < 3; at++) {
            for (int wrong : new int[] {LEAST, -1, 0, 30001, MOST}) {
                int[] of = {3, 3, 3};
                of[at] = wrong;
                CHECKS.thrown("sheet() with " + wrong + " as " + at, Checks.ARGUMENT,
                    () -> x.sheet(of[0], of[1], of[2]));
            }
            for (int right : new int[] {1, 30000}) {
                int[] of = {3, 3, 3};
                of[at] = right;
                CHECKS.nothingThrown("sheet() with " + right + " as " + at,
                    () -> new PageLayout().sheet(of[0], of[1], of[2]));
            }
        }
        x.paragraph();
        x.shape(0, 5, 1);
        x.sign(5, 0, 9);
        x.sign(2, 0, 1);
        CHECKS.dueFilled("a refused one is none, 9 high", x, 1, 1);
        CHECKS.due("7 wide", 7, x.line(0, 8));
        CHECKS.due("a step of 11", 11, x.where(1, 2));
    }

    /** Promise 8: "Lays out: how many pages there are", again and again. */
    private static void layTwice() {
        PageLayout x = Checks.written(25, "xx xx|xx xx");
        x.shape(0, 5, 3);
        CHECKS.due("lay()", 2, x.lay());
        String first = Answers.ofAll(x);
        CHECKS.due("lay() again", 2, x.lay());
        CHECKS.due("nothing is another then", first, Answers.ofAll(x));
        x.shape(0, 5, 1);
        x.shape(0, 5, 3);
        CHECKS.due("lay() behind changes there and back", 2, x.lay());
        CHECKS.due("nothing is another then", first, Answers.ofAll(x));
    }

    private static void layOfNothing() {
        PageLayout x = new PageLayout();
        CHECKS.due("lay() of no paragraphs", 0, x.lay());
        CHECKS.due("lines", 0, x.count(2));
        CHECKS.due("pages", 0, x.count(3));
        CHECKS.thrown("line", Checks.NO_SUCH, () -> x.line(0, 0));
        CHECKS.thrown("where", Checks.NO_SUCH, () -> x.where(0, 0));
        CHECKS.thrown("page", Checks.NO_SUCH, () -> x.page(0, 0));
        CHECKS.thrown("hit", Checks.NO_SUCH, () -> x.hit(0, 0, 0));
        x.paragraph();
        CHECKS.due("lay() of a paragraph without signs", 1, x.lay());
        CHECKS.thrown("it has no sign", Checks.NO_SUCH, () -> x.where(0, 0));
    }

    /** Promise 9: "lines (2), pages (3) that are laid out, 0 if nothing is; -1 for another what" */
    private static void countOfWhat() {
        PageLayout x = Checks.written(25, "xx xx|x");
        x.paragraph();
        int[] given = {2, 7, 0, 0};
        int[] laid = {2, 7, 4, 2};
        for (int what = 0; what < 4; what++) {
            CHECKS.due("count(" + what + ")", given[what], x.count(what));
        }
        x.lay();
        for (int what = 0; what < 4; what++) {
            CHECKS.due("laid out: count(" + what + ")", laid[what], x.count(what));
        }
        x.shape(0, 0, 0);
        for (int what = 0; what < 4; what++) {
            CHECKS.due("changed: count(" + what + ")", given[what], x.count(what));
        }
        for (int what : new int[] {LEAST, -4, -1, 4, 5, MOST}) {
            CHECKS.due("count(" + what + ")", -1, x.count(what));
        }
    }

    /** Promise 10: "first sign (1; the number that the next one would have, if it has none)" */
    private static void lineFirstSign() {
        PageLayout x = new PageLayout();
        x.paragraph();
        x.paragraph();
        x.sign(0, 1, 1);
        x.sign(5, 1, 1);
        x.sign(0, 1, 1);
        x.paragraph();
        x.paragraph();
        x.sign(0, 1, 1);
        x.paragraph();
        CHECKS.dueSplit("signs", x, 0, 2, 1, 0, 1, 0);
        CHECKS.dueLines("first signs", x, 1, 0, 0, 2, 3, 3, 4);
        for (int what : new int[] {LEAST, -1, 10, MOST}) {
            CHECKS.thrown("line(0, " + what + ")", Checks.ARGUMENT, () -> x.line(0, what));
            CHECKS.thrown("line(6, " + what + ")", Checks.NO_SUCH, () -> x.line(6, what));
        }
        for (int line : new int[] {LEAST, -1, 6, MOST}) {
            CHECKS.thrown("line(" + line + ", 0)", Checks.NO_SUCH, () -> x.line(line, 0));
        }
    }

    /** Promise 10: "where it begins (3), its end (4; both as they are without alignment)" */
    private static void lineWithoutAlignment() {
        int[] moved = {0, 3, 1, 0};
        int[] wider = {0, 0, 0, 3};
        for (int aligned = 0; aligned <= 3; aligned++) {
            PageLayout x = Checks.written(33, "x x xxx");
            x.shape(0, 0, 6);
            x.shape(0, 5, aligned);
            CHECKS.dueSplit("aligned " + aligned, x, 4, 3);
            CHECKS.due("begins", 6, x.line(0, 3));
            CHECKS.due("ends", 30, x.line(0, 4));
            CHECKS.due("moved if aligned " + aligned, moved[aligned], x.line(0, 8));
            CHECKS.due("wider if aligned " + aligned, wider[aligned], x.line(0, 9));
            CHECKS.due("its first sign", 6 + moved[aligned], x.where(0, 1));
        }
    }

    /** Promise 11: "how wide it is (2), trailing ones as wide as they are" */
    private static void whereOfTrailingOnes() {
        for (int aligned = 0; aligned <= 3; aligned++) {
            PageLayout x = new PageLayout();
            x.sheet(20, 100, 50);
            x.paragraph();
            x.shape(0, 5, aligned);
            Checks.signs(x, new int[] {0, 1, 0, 1, 1, 0}, 5, 1, 5, 4000, 0, 20);
            CHECKS.dueSplit("aligned " + aligned, x, 5, 1);
            CHECKS.due("aligned " + aligned, 4000, x.where(3, 2));
            CHECKS.due("aligned " + aligned, 0, x.where(4, 2));
            int end = new int[] {11, 20, 15, 20}[aligned];
            CHECKS.due("aligned " + aligned + ", it begins", end, x.where(3, 1));
            CHECKS.due("aligned " + aligned + ", it begins", end + 4000, x.where(4, 1));
        }
    }

    /** Promise 11: "NoSuchElementException: also if nothing is laid out." */
    private static void whereIfNothingIsLaidOut() {
        PageLayout x = Checks.written(100, "xx");
        CHECKS.thrown("ahead of lay()", Checks.NO_SUCH, () -> x.where(0, 0));
        CHECKS.thrown("ahead of lay(), wrong", Checks.NO_SUCH, () -> x.where(0, 3));
        x.lay();
        CHECKS.due("laid out", 10, x.where(1, 1));
        for (int sign : new int[] {LEAST, -1, 2, 599, 600, MOST}) {
            CHECKS.thrown("where(" + sign + ", 0)", Checks.NO_SUCH, () -> x.where(sign, 0));
            CHECKS.thrown("where(" + sign + ", 3)", Checks.NO_SUCH, () -> x.where(sign, 3));
        }
        for (int what : new int[] {LEAST, -1, 3, MOST}) {
            CHECKS.thrown("where(0, " + what + ")", Checks.ARGUMENT, () -> x.where(0, what));
        }
        x.sheet(100, 100, 100);
        CHECKS.thrown("behind a change", Checks.NO_SUCH, () -> x.where(0, 0));
    }

    /** Promise 12: "its first line (what = 0), how many lines (1), where the last one ends (2)" */
    private static void pageOfWhat() {
        PageLayout x = Checks.written(100, "x/x|x/x/x");
        CHECKS.thrown("ahead of lay()", Checks.NO_SUCH, () -> x.page(0, 0));
        x.lay();
        CHECKS.duePages("first lines", x, 0, 0, 2);
        CHECKS.duePages("how many lines", x, 1, 2, 3);
        CHECKS.duePages("ends", x, 2, 16, 24);
        for (int page : new int[] {LEAST, -1, 2, MOST}) {
            CHECKS.thrown("page(" + page + ", 0)", Checks.NO_SUCH, () -> x.page(page, 0));
            CHECKS.thrown("page(" + page + ", 3)", Checks.NO_SUCH, () -> x.page(page, 3));
            CHECKS.thrown("hit(" + page + ", 0, 0)", Checks.NO_SUCH, () -> x.hit(page, 0, 0));
        }
        for (int what : new int[] {LEAST, -1, 3, MOST}) {
            CHECKS.thrown("page(1, " + what + ")", Checks.ARGUMENT, () -> x.page(1, what));
        }
    }

    /** Promise 13: "in the last line of the page that begins at y or above" */
    private static void hitLastLineThatBegins() {
        PageLayout x = Checks.written(100, "x/x/x|x");
        x.shape(0, 10, 10);
        x.paragraph();
        x.shape(1, 3, 5);
        x.lay();
        int[] y = {0, 9, 10, 19, 20, 29, 30, 31, 1000, MOST};
        int[] want = {0, 0, 2, 2, 4, 4, 4, 4, 4, 4};
        for (int i = 0; i < y.length; i++) {
            CHECKS.due("hit(0, 0, " + y[i] + ")", want[i], x.hit(0, 0, y[i]));
        }
        CHECKS.due("the space ahead of a line is of the one before", 6, x.hit(1, 0, 14));
        CHECKS.due("where it begins", 7, x.hit(1, 0, 15));
        CHECKS.due("below all, its paragraph has no signs", 7, x.hit(1, 0, MOST));
    }

    /** Promise 13: "(the first one, if none does)" */
    private static void hitFirstLineIfNoneDoes() {
        PageLayout x = Checks.written(100, "x/x|x/x");
        x.lay();
        for (int y : new int[] {LEAST, -1000, -1}) {
            CHECKS.due("hit(0, 0, " + y + ")", 0, x.hit(0, 0, y));
            CHECKS.due("hit(1, 0, " + y + ")", 4, x.hit(1, 0, y));
        }
    }

    /** Promise 13: "whose middle (where it begins and half of its width, going down) is above x" */
    private static void hitMiddle() {
        int[] widths = {0, 1, 2, 3, 4, 4000};
        int[] middles = {100, 100, 101, 101, 102, 2100};
        for (int i = 0; i < widths.length; i++) {
            PageLayout x = new PageLayout();
            x.paragraph();
            Checks.signs(x, new int[] {0, 0}, 100, widths[i]);
            x.lay();
            CHECKS.due("ahead, width " + widths[i], 1, x.hit(0, middles[i] - 1, 0));
            CHECKS.due("at the middle, width " + widths[i], 2, x.hit(0, middles[i], 0));
        }
        PageLayout x = new PageLayout();
        x.paragraph();
        Checks.signs(x, new int[] {0, 0, 0, 0}, 0, 0, 1, 9);
        x.lay();
        CHECKS.due("the first of several", 0, x.hit(0, -1, 0));
        CHECKS.due("none of those of no width", 3, x.hit(0, 0, 0));
        CHECKS.due("as far left as can be", 0, x.hit(0, LEAST, 0));
        CHECKS.due("as far right as can be", 4, x.hit(0, MOST, 0));
    }

    /** Promise 13: a sign's place and width are those that where() tells. */
    private static void hitMiddleOfMovedOnes() {
        int[][] middles = {{5, 12, 19}, {14, 21, 28}, {9, 16, 23}, {5, 16, 28}};
        for (int aligned = 0; aligned <= 3; aligned++) {
            PageLayout x = Checks.written(33, "x x xxx");
            x.shape(0, 5, aligned);
            x.lay();
            for (int sign = 0; sign < 3; sign++) {
                int middle = middles[aligned][sign];
                CHECKS.due("aligned " + aligned, sign, x.hit(0, middle - 1, 0));
                CHECKS.due("aligned " + aligned, sign + 1, x.hit(0, middle, 0));
            }
        }
    }

    /** Promise 13: "but no LINE END or PAGE END; if there is none, the LINE END or PAGE END" */
    private static void hitAnEnd() {
        PageLayout x = Checks.written(100, "x/x |");
        x.paragraph();
        Checks.write(x, "/|");
        x.lay();
        CHECKS.due("a LINE END", 1, x.hit(0, 5, 0));
        CHECKS.due("a LINE END far right", 1, x.hit(0, MOST, 0));
        CHECKS.due("ahead of the sign ahead of it", 0, x.hit(0, 4, 0));
        CHECKS.due("a trailing one ahead of a PAGE END", 3, x.hit(0, 11, 8));
        CHECKS.due("a PAGE END", 4, x.hit(0, 12, 8));
        CHECKS.due("a PAGE END far right", 4, x.hit(0, MOST, 8));
        CHECKS.due("a LINE END alone, from the left", 5, x.hit(1, LEAST, 0));
        CHECKS.due("a LINE END alone, from the right", 5, x.hit(1, MOST, 0));
        CHECKS.due("a PAGE END alone, from the left", 6, x.hit(1, LEAST, 8));
        CHECKS.due("a PAGE END alone, from the right", 6, x.hit(1, MOST, 8));
    }

    /** Promise 13: "or the sign behind the line's last one" */
    private static void hitTheSignBehind() {
        PageLayout x = Checks.written(20, "xx-xx");
        x.paragraph();
        x.paragraph();
        Checks.write(x, "x");
        x.lay();
        CHECKS.due("the next line's first", 3, x.hit(0, MOST, 0));
        CHECKS.due("the next paragraph's", 5, x.hit(0, MOST, 8));
        CHECKS.due("of a line without signs", 5, x.hit(0, MOST, 16));
        CHECKS.due("of a line without signs, from the left", 5, x.hit(0, LEAST, 16));
        CHECKS.due("behind the last of all", 6, x.hit(0, MOST, 17));
    }

    /** Promise 13: trailing BLANKs stand where they are, beyond the page too. */
    private static void hitTrailingOnes() {
        PageLayout x = new PageLayout();
        x.sheet(20, 100, 50);
        x.paragraph();
        Checks.signs(x, new int[] {0, 1, 1, 0}, 20, 10, 4000, 20);
        x.lay();
        CHECKS.due("the first", 1, x.hit(0, 24, 0));
        CHECKS.due("the second", 2, x.hit(0, 25, 0));
        CHECKS.due("the second", 2, x.hit(0, 2029, 0));
        CHECKS.due("behind them", 3, x.hit(0, 2030, 0));
    }
}
