/** The edges that the Terms name of lines: breaks, places across, tabs, fitting, alignment. */
public final class LineEdgesTest {
    private static final Checks CHECKS = new Checks();
    private static final int LETTER = 0;
    private static final int BLANK = 1;
    private static final int TAB = 2;
    private static final int HYPHEN = 3;
    private static final int SOFT = 4;
    private static final int LINE_END = 5;
    private static final int PAGE_END = 6;

    public static void main(String[] args) {
        signsOfOneParagraph();
        breakBehindOrAhead();
        breakBehindTheLastSign();
        noFurtherThanAnEnd();
        trailingAtTheEnd();
        trailingAheadOfAnEnd();
        notTrailing();
        softHyphenAsTheLastSign();
        endsAreNotWide();
        beginsAtLeft();
        firstBegins();
        eachBeginsWhereTheOneBeforeEnds();
        leastStopAbove();
        widthsUpToTheNextTab();
        widthsWithoutTrailingOnes();
        tabOfKind1();
        tabOfKind2();
        tabNeverLessThan0();
        endOfALine();
        endWhereItBegins();
        fitsIfNotAbove();
        fitsInNoRoom();
        lastBreakForWhichItFits();
        upToTheFirstBreak();
        paragraphWithoutSigns();
        restNotBelow0();
        movedByTheRest();
        movedByHalfOfTheRest();
        gapsShareTheRest();
        gapsBehindTheLastTab();
        noGaps();
        lastLineIsNotWidened();
        endedLineIsNotWidened();
        greatestHeight();
        CHECKS.close("LineEdgesTest");
    }

    /** A paragraph on a sheet so wide, with stops every 50, of these kinds and widths. */
    private static PageLayout made(int wide, int[] kinds, int... widths) {
        PageLayout x = new PageLayout();
        x.sheet(wide, 100, 50);
        x.paragraph();
        Checks.signs(x, kinds, widths);
        return x;
    }

    private static int[] kinds(int... kinds) {
        return kinds;
    }

    /** "A line has signs of one paragraph" */
    private static void signsOfOneParagraph() {
        PageLayout x = Checks.written(1000, "x");
        x.paragraph();
        x.paragraph();
        Checks.write(x, "x");
        CHECKS.dueSplit("each has its own", x, 1, 0, 1);
        CHECKS.dueLines("their paragraphs", x, 0, 0, 1, 2);
        CHECKS.dueSigns("their signs' lines", x, 0, 0, 2);
        CHECKS.dueSigns("each line begins anew", x, 1, 0, 0);
    }

    /** "a place behind a BLANK, HYPHEN, SOFT hyphen, LINE END or PAGE END, ahead of a TAB" */
    private static void breakBehindOrAhead() {
        int[][] want = {{3}, {2, 1}, {1, 2}, {2, 1}, {2, 1}, {2, 1}, {2, 1}};
        for (int kind = LETTER; kind <= PAGE_END; kind++) {
            PageLayout x = made(1, kinds(LETTER, kind, LETTER), 9, 9, 9);
            CHECKS.dueSplit("a break at kind " + kind, x, want[kind]);
        }
        CHECKS.dueSplit("none behind a TAB", made(1, kinds(TAB, LETTER, LETTER), 9, 9, 9), 3);
        CHECKS.dueSplit("none ahead of a first TAB", made(1, kinds(TAB), 9), 1);
        CHECKS.dueSplit("one between two TABs", made(1, kinds(TAB, TAB), 9, 9), 1, 1);
        CHECKS.dueSplit("none ahead of a BLANK", made(1, kinds(LETTER, BLANK), 9, 9), 2);
    }

    /** "or behind the paragraph's last sign" */
    private static void breakBehindTheLastSign() {
        for (int kind = LETTER; kind <= PAGE_END; kind++) {
            CHECKS.dueSplit("a last one of kind " + kind, made(1, kinds(kind), 9), 1);
            PageLayout x = made(1, kinds(kind), 9);
            x.paragraph();
            x.sign(LETTER, 9, 9);
            CHECKS.dueSplit("the last one of its paragraph, of kind " + kind, x, 1, 1);
        }
    }

    /** "it goes no further than the first LINE END, PAGE END or last sign" */
    private static void noFurtherThanAnEnd() {
        for (int end = LINE_END; end <= PAGE_END; end++) {
            CHECKS.dueSplit("room enough, kind " + end,
                made(30000, kinds(LETTER, end, LETTER, end, end), 1, 1, 1, 1, 1), 2, 2, 1);
            CHECKS.dueSplit("an end first, kind " + end,
                made(30000, kinds(end, LETTER), 1, 1), 1, 1);
        }
        CHECKS.dueSplit("the last sign", made(30000, kinds(LETTER, BLANK), 1, 1), 2);
    }

    /** "TRAILING are the BLANKs at its end": each of them, be the line none but these. */
    private static void trailingAtTheEnd() {
        PageLayout x = made(10, kinds(LETTER, BLANK, BLANK, LETTER), 10, 4000, 4000, 10);
        CHECKS.dueSplit("they hang", x, 3, 1);
        CHECKS.dueLines("they hang", x, 4, 10, 10);
        CHECKS.dueSigns("they are as wide as they are", x, 2, 10, 4000, 4000, 10);
        CHECKS.dueSigns("where they begin", x, 1, 0, 10, 4010, 0);
        x = made(10, kinds(BLANK, BLANK), 11, 11);
        CHECKS.dueSplit("none but these", x, 2);
        CHECKS.dueLines("none but these", x, 4, 0);
        x = made(10, kinds(BLANK, LETTER), 1, 10);
        CHECKS.dueSplit("a BLANK at the beginning isn't, but alone it is", x, 1, 1);
        CHECKS.dueLines("a BLANK alone", x, 4, 0, 10);
    }

    /** ".. or those right ahead of the LINE END or PAGE END with which it ends" */
    private static void trailingAheadOfAnEnd() {
        for (int end = LINE_END; end <= PAGE_END; end++) {
            PageLayout x = made(10, kinds(LETTER, BLANK, BLANK, end, LETTER), 10, 5, 5, 9, 10);
            CHECKS.dueSplit("they hang ahead of kind " + end, x, 4, 1);
            CHECKS.dueLines("they hang ahead of kind " + end, x, 4, 10, 10);
            CHECKS.due("it stands behind them", 20, x.where(3, 1));
            x = made(10, kinds(BLANK, end), 11, 0);
            CHECKS.dueSplit("none but a BLANK and kind " + end, x, 2);
            CHECKS.dueLines("none but a BLANK and kind " + end, x, 4, 0);
            x = made(10, kinds(LETTER, end, BLANK, LETTER), 10, 0, 1, 9);
            CHECKS.dueSplit("behind kind " + end + " it isn't", x, 2, 2);
            CHECKS.dueLines("behind kind " + end + " it isn't", x, 4, 10, 10);
        }
    }

    /** A BLANK ahead of any other sign at the line's end is none of these. */
    private static void notTrailing() {
        int[] ends = {14, 50, 15, 15};
        int[] kind = {LETTER, TAB, HYPHEN, SOFT};
        for (int i = 0; i < kind.length; i++) {
            PageLayout x = made(100, kinds(LETTER, BLANK, kind[i]), 10, 4, i < 2 ? 0 : 1);
            x.lay();
            CHECKS.due("a BLANK ahead of kind " + kind[i], ends[i], x.line(0, 4));
        }
        PageLayout x = made(100, kinds(LETTER, BLANK, SOFT, LINE_END), 10, 4, 1, 1);
        x.lay();
        CHECKS.due("a SOFT hyphen of no width behind it", 14, x.line(0, 4));
    }

    /** "A SOFT hyphen counts its width if it is the line's last sign, otherwise 0" */
    private static void softHyphenAsTheLastSign() {
        int[] behind = {LETTER, BLANK, TAB, HYPHEN, SOFT, LINE_END, PAGE_END};
        for (int kind : behind) {
            PageLayout x = made(30000, kinds(LETTER, SOFT, kind), 10, 4000, 7);
            CHECKS.dueSplit("within, ahead of kind " + kind, x, 3);
            CHECKS.due("within, ahead of kind " + kind, 0, x.where(1, 2));
            CHECKS.due("the next one begins there", 10, x.where(2, 1));
        }
        PageLayout x = made(30000, kinds(SOFT), 4000);
        x.lay();
        CHECKS.due("alone", 4000, x.where(0, 2));
        CHECKS.due("alone, the end", 4000, x.line(0, 4));
        x = made(16, kinds(LETTER, SOFT, SOFT, LETTER), 10, 6, 6, 16);
        CHECKS.dueSplit("only the last one of two", x, 3, 1);
        CHECKS.dueSigns("only the last one of two", x, 2, 10, 0, 6, 16);
        x = made(16, kinds(LETTER, SOFT, LETTER), 10, 7, 7);
        CHECKS.dueSplit("it doesn't fit, nor does any", x, 2, 1);
        x = made(17, kinds(LETTER, SOFT, LETTER), 10, 8, 7);
        CHECKS.dueSplit("it doesn't fit, but all does", x, 3);
    }

    /** "LINE END and PAGE END 0" */
    private static void endsAreNotWide() {
        for (int end = LINE_END; end <= PAGE_END; end++) {
            PageLayout x = made(10, kinds(LETTER, end, end), 10, 4000, 4000);
            CHECKS.dueSplit("kind " + end, x, 2, 1);
            CHECKS.dueSigns("kind " + end, x, 2, 10, 0, 0);
            CHECKS.dueSigns("kind " + end, x, 1, 0, 10, 0);
            CHECKS.dueLines("kind " + end, x, 4, 10, 0);
        }
    }

    /** "the line begins at LEFT" */
    private static void beginsAtLeft() {
        for (int left : new int[] {0, 1, 4999, 5000}) {
            PageLayout x = Checks.written(30000, "x/x/x");
            x.shape(0, 0, left);
            x.lay();
            CHECKS.dueLines("left " + left, x, 3, left, left, left);
            CHECKS.dueLines("its end", x, 4, left + 10, left + 10, left + 10);
            CHECKS.due("its first sign", left, x.where(2, 1));
        }
    }

    /** "the first one of its paragraph at LEFT + FIRST; if that is below 0, at 0" */
    private static void firstBegins() {
        int[][] leftFirstWant = {{0, 0, 0}, {0, -1, 0}, {0, -5000, 0}, {7, -6, 1}, {7, -7, 0},
            {7, -8, 0}, {0, 5000, 5000}, {5000, 5000, 10000}, {5000, -5000, 0}, {5000, -4999, 1}};
        for (int[] each : leftFirstWant) {
            PageLayout x = Checks.written(30000, "x/x");
            x.shape(0, 0, each[0]);
            x.shape(0, 2, each[1]);
            x.paragraph();
            x.shape(1, 0, each[0]);
            x.shape(1, 2, each[1]);
            x.lay();
            String told = "left " + each[0] + ", first " + each[1];
            CHECKS.dueLines(told, x, 3, each[2], each[0], each[2]);
            CHECKS.due(told, each[2], x.where(0, 1));
            CHECKS.due(told, each[0], x.where(2, 1));
        }
    }

    /** "Each sign begins where the one before ends, and is so wide." */
    private static void eachBeginsWhereTheOneBeforeEnds() {
        PageLayout x = made(30000, kinds(LETTER, LETTER, HYPHEN, BLANK, LETTER), 4000, 0, 1, 0, 9);
        x.lay();
        CHECKS.dueSigns("places", x, 1, 0, 4000, 4000, 4001, 4001);
        CHECKS.dueSigns("widths", x, 2, 4000, 0, 1, 0, 9);
    }

    /** "with the least stop above the place p where it begins" */
    private static void leastStopAbove() {
        int[] width = {0, 19, 20, 21, 59, 60, 61, 99, 100, 101};
        int[] want = {20, 20, 60, 60, 60, 100, 100, 100, 150, 150};
        for (int i = 0; i < width.length; i++) {
            PageLayout x = made(30000, kinds(LETTER, TAB, LETTER), width[i], 0, 5);
            x.stop(0, 20, 0);
            x.stop(0, 60, 0);
            x.lay();
            CHECKS.due("from " + width[i], want[i] - width[i], x.where(1, 2));
            CHECKS.due("what follows from " + width[i], want[i], x.where(2, 1));
        }
    }

    /** "w the widths of the signs behind it up to the next TAB" */
    private static void widthsUpToTheNextTab() {
        PageLayout x = made(30000, kinds(TAB, LETTER, BLANK, SOFT, TAB, LETTER, TAB),
            0, 10, 4, 9, 0, 3, 0);
        x.stop(0, 100, 1);
        x.stop(0, 200, 1);
        x.lay();
        CHECKS.dueSigns("a BLANK there counts, a SOFT hyphen doesn't", x, 2, 86, 10, 4, 0, 97, 3, 50);
        PageLayout next = made(30000, kinds(TAB, TAB), 0, 0);
        next.stop(0, 100, 1);
        next.lay();
        CHECKS.due("right ahead of the next TAB", 100, next.where(0, 2));
    }

    /** "or, if there is none, up to the line's end without trailing ones, together" */
    private static void widthsWithoutTrailingOnes() {
        for (int end = BLANK; end <= PAGE_END; end++) {
            PageLayout x = made(30000, kinds(TAB, LETTER, BLANK, LETTER, BLANK, end),
                0, 10, 4, 10, 4, 6);
            x.stop(0, 100, 1);
            x.lay();
            int[] want = {0, 76, 72, 66, 66, 76, 76};
            CHECKS.due("ended by kind " + end, want[end], x.where(0, 2));
        }
        PageLayout last = made(30000, kinds(LETTER, TAB), 9, 0);
        last.stop(0, 100, 1);
        last.lay();
        CHECKS.due("nothing behind it", 91, last.where(1, 2));
        PageLayout soft = made(100, kinds(TAB, LETTER, SOFT, LETTER), 0, 60, 10, 60);
        soft.stop(0, 80, 1);
        CHECKS.dueSplit("a SOFT hyphen as the last one", soft, 3, 1);
        CHECKS.due("counts", 10, soft.where(0, 2));
    }

    /** "s - p - w (1) .. but never less than 0" */
    private static void tabOfKind1() {
        int[] follow = {0, 1, 79, 80, 81, 4000};
        int[] want = {80, 79, 1, 0, 0, 0};
        for (int i = 0; i < follow.length; i++) {
            PageLayout x = made(30000, kinds(LETTER, TAB, LETTER), 20, 0, follow[i]);
            x.stop(0, 100, 1);
            x.lay();
            CHECKS.due("what follows is wide " + follow[i], want[i], x.where(1, 2));
            CHECKS.due("the end", Math.max(100, 20 + follow[i]), x.line(0, 4));
        }
    }

    /** "or s - p less half of w, that going down (2), but never less than 0" */
    private static void tabOfKind2() {
        int[] follow = {0, 1, 2, 3, 158, 159, 160, 161, 162, 163, 4000};
        int[] want = {80, 80, 79, 79, 1, 1, 0, 0, 0, 0, 0};
        for (int i = 0; i < follow.length; i++) {
            PageLayout x = made(30000, kinds(LETTER, TAB, LETTER), 20, 0, follow[i]);
            x.stop(0, 100, 2);
            x.lay();
            CHECKS.due("what follows is wide " + follow[i], want[i], x.where(1, 2));
            CHECKS.due("the end", 20 + want[i] + follow[i], x.line(0, 4));
        }
    }

    /** "but never less than 0": then the next TAB begins where that all ends. */
    private static void tabNeverLessThan0() {
        for (int kind = 0; kind <= 2; kind++) {
            PageLayout x = made(30000, kinds(LETTER, TAB, LETTER, TAB, LETTER), 99, 0, 101, 0, 1);
            x.stop(0, 100, kind);
            x.stop(0, 200, kind);
            x.stop(0, 300, kind);
            x.lay();
            int wide = kind == 0 ? 1 : 0;
            CHECKS.due("of kind " + kind, wide, x.where(1, 2));
            CHECKS.due("what follows it", 99 + wide, x.where(2, 1));
            CHECKS.due("the next TAB", 200 + wide, x.where(3, 1));
            CHECKS.due("the stop above that", kind == 1 ? 299 : 300, x.where(4, 1));
        }
    }

    /** "Its END is where its last sign ends that is neither trailing nor a LINE END .." */
    private static void endOfALine() {
        int[] want = {15, 10, 50, 15, 15, 10, 10};
        for (int kind = LETTER; kind <= PAGE_END; kind++) {
            PageLayout x = made(100, kinds(LETTER, kind), 10, 5);
            x.lay();
            CHECKS.due("the last sign is of kind " + kind, want[kind], x.line(0, 4));
        }
    }

    /** "(where it begins, if there is none)" */
    private static void endWhereItBegins() {
        int[][] all = {{}, {BLANK}, {LINE_END}, {PAGE_END}, {BLANK, BLANK, LINE_END}};
        for (int[] each : all) {
            PageLayout x = made(100, each, 5, 5, 5);
            x.shape(0, 0, 30);
            x.shape(0, 2, -9);
            x.shape(0, 5, 1);
            x.lay();
            CHECKS.due("it begins", 21, x.line(0, 3));
            CHECKS.due("it ends there", 21, x.line(0, 4));
            CHECKS.due("its rest", 79, x.line(0, 8));
        }
    }

    /** "it FITS if that isn't above WIDE - RIGHT" */
    private static void fitsIfNotAbove() {
        for (int right : new int[] {0, 1, 4999, 5000}) {
            PageLayout x = made(6000, kinds(LETTER, HYPHEN, LETTER), 500, 1, 499);
            x.shape(0, 1, right);
            x.sheet(1000 + right, 100, 50);
            CHECKS.dueSplit("just so wide, right " + right, x, 3);
            x.sheet(999 + right, 100, 50);
            CHECKS.dueSplit("1 less, right " + right, x, 2, 1);
        }
        PageLayout widest = made(30000, kinds(LETTER, LETTER, LETTER, LETTER, LETTER, LETTER,
            LETTER, HYPHEN, LETTER), 4000, 4000, 4000, 4000, 4000, 4000, 4000, 1999, 1);
        CHECKS.dueSplit("30000 wide", widest, 9);
        widest.shape(0, 1, 1);
        CHECKS.dueSplit("29999 wide", widest, 8, 1);
        PageLayout least = made(1, kinds(LETTER, HYPHEN, HYPHEN, HYPHEN), 0, 1, 0, 1);
        CHECKS.dueSplit("1 wide", least, 3, 1);
        PageLayout begun = made(100, kinds(LETTER, HYPHEN, LETTER), 1, 1, 1);
        begun.shape(0, 0, 97);
        CHECKS.dueSplit("begun at the last place", begun, 3);
        begun.shape(0, 2, 1);
        CHECKS.dueSplit("and by 1 more", begun, 2, 1);
    }

    /** The same where WIDE - RIGHT is 0, or below. */
    private static void fitsInNoRoom() {
        PageLayout x = made(10, kinds(HYPHEN, BLANK, HYPHEN, HYPHEN, HYPHEN), 0, 9, 0, 1, 0);
        x.shape(0, 1, 10);
        CHECKS.dueSplit("a BLANK within counts", x, 2, 1, 1, 1);
        PageLayout none = made(10, kinds(HYPHEN, HYPHEN, BLANK), 0, 0, 9);
        none.shape(0, 1, 10);
        CHECKS.dueSplit("no width fits 0", none, 3);
        none.shape(0, 1, 11);
        CHECKS.dueSplit("nothing fits below 0", none, 1, 1, 1);
        none.shape(0, 1, 5000);
        CHECKS.dueSplit("nothing fits far below 0", none, 1, 1, 1);
    }

    /** "It goes up to the last break for which it fits" */
    private static void lastBreakForWhichItFits() {
        int[] kinds = kinds(LETTER, SOFT, LETTER, SOFT, LETTER, HYPHEN, LETTER);
        CHECKS.dueSplit("the second doesn't fit, the third does",
            made(31, kinds, 10, 5, 10, 20, 10, 1, 10), 6, 1);
        CHECKS.dueSplit("the third doesn't fit, nor the second",
            made(30, kinds, 10, 5, 10, 20, 10, 1, 10), 2, 4, 1);
        CHECKS.dueSplit("all", made(41, kinds, 10, 5, 10, 20, 10, 1, 10), 7);
        PageLayout x = made(100, kinds(TAB, LETTER, BLANK, LETTER, BLANK, LETTER), 0, 40, 4, 40, 4,
            12);
        x.stop(0, 90, 1);
        CHECKS.dueSplit("a TAB gives way until it is 0 wide", x, 6);
        x.sheet(99, 100, 50);
        CHECKS.dueSplit("and no further", x, 5, 1);
    }

    /** "if there is none, up to the first one" */
    private static void upToTheFirstBreak() {
        CHECKS.dueSplit("the first", made(9, kinds(LETTER, LETTER, HYPHEN, LETTER, HYPHEN, LETTER),
            10, 10, 1, 10, 1, 9), 3, 2, 1);
        CHECKS.dueSplit("the last sign", made(9, kinds(LETTER, LETTER), 10, 10), 2);
        CHECKS.dueSplit("ahead of a TAB", made(9, kinds(LETTER, LETTER, TAB, TAB), 10, 10, 0, 0),
            2, 1, 1);
        CHECKS.dueSplit("a LINE END alone behind it", made(9, kinds(HYPHEN, LINE_END, PAGE_END),
            10, 0, 0), 1, 1, 1);
        PageLayout x = made(9, kinds(LETTER, BLANK, LINE_END), 10, 1, 0);
        CHECKS.dueSplit("a BLANK hangs, what is behind it doesn't", x, 2, 1);
        CHECKS.dueLines("the end beyond the room", x, 4, 10, 0);
    }

    /** "A paragraph without signs has one line without any." */
    private static void paragraphWithoutSigns() {
        PageLayout x = new PageLayout();
        CHECKS.dueSplit("no paragraph", x);
        x.paragraph();
        CHECKS.dueSplit("one", x, 0);
        x.paragraph();
        x.sign(LETTER, 1, 9);
        x.sign(LINE_END, 1, 9);
        x.paragraph();
        CHECKS.dueSplit("ahead and behind", x, 0, 2, 0);
        CHECKS.dueLines("their first signs", x, 1, 0, 0, 2);
        CHECKS.dueLines("their heights", x, 5, 1, 9, 1);
        CHECKS.dueLines("their places", x, 7, 0, 1, 10);
        CHECKS.due("behind the first", 0, x.hit(0, 0, 0));
        CHECKS.due("behind the last", 2, x.hit(0, 0, 10));
    }

    /** "Its REST is WIDE - RIGHT less its end, or 0 if that is below 0." */
    private static void restNotBelow0() {
        int[] wide = {8, 9, 10, 11, 12};
        int[] rest = {0, 0, 0, 1, 2};
        for (int i = 0; i < wide.length; i++) {
            for (int aligned = 1; aligned <= 2; aligned++) {
                PageLayout x = made(wide[i] + 20, kinds(LETTER, BLANK), 10, 9);
                x.shape(0, 1, 20);
                x.shape(0, 5, aligned);
                x.lay();
                CHECKS.due("aligned " + aligned + ", wide " + wide[i],
                    aligned == 1 ? rest[i] : rest[i] / 2, x.line(0, 8));
            }
        }
    }

    /** "ALIGNED right, all its signs are moved by the rest" */
    private static void movedByTheRest() {
        PageLayout x = made(100, kinds(TAB, LETTER, BLANK, LETTER, BLANK, LINE_END), 0, 9, 1, 9, 2,
            0);
        x.shape(0, 5, 1);
        x.lay();
        CHECKS.due("moved", 31, x.line(0, 8));
        CHECKS.dueSigns("all", x, 1, 31, 81, 90, 91, 100, 102);
        CHECKS.dueSigns("as wide as they are", x, 2, 50, 9, 1, 9, 2, 0);
        CHECKS.due("not its beginning", 0, x.line(0, 3));
        CHECKS.due("not its end", 69, x.line(0, 4));
        CHECKS.due("no gaps", 0, x.line(0, 9));
    }

    /** "in the middle, by half of it (going down)" */
    private static void movedByHalfOfTheRest() {
        int[] want = {0, 0, 1, 1, 2, 2};
        for (int rest = 0; rest < want.length; rest++) {
            PageLayout x = made(20 + rest, kinds(LETTER, LETTER), 10, 10);
            x.shape(0, 5, 2);
            x.lay();
            CHECKS.due("moved by half of " + rest, want[rest], x.line(0, 8));
            CHECKS.dueSigns("moved by half of " + rest, x, 1, want[rest], 10 + want[rest]);
            CHECKS.due("no gaps", 0, x.line(0, 9));
        }
    }

    /** "each is wider by the rest through how many they are, and the first ones .. by 1 more" */
    private static void gapsShareTheRest() {
        for (int gaps = 1; gaps <= 4; gaps++) {
            for (int rest = 0; rest <= 9; rest++) {
                PageLayout x = new PageLayout();
                x.sheet(10 * gaps + 10 + rest, 100, 50);
                x.paragraph();
                for (int i = 0; i < gaps; i++) {
                    Checks.signs(x, kinds(LETTER, BLANK), 10, 0);
                }
                Checks.signs(x, kinds(LETTER, BLANK, LETTER), 10, 3, 4000);
                x.shape(0, 5, 3);
                dueGaps(x, gaps, rest);
            }
        }
    }

    private static void dueGaps(PageLayout x, int gaps, int rest) {
        String told = gaps + " gaps, rest " + rest;
        CHECKS.dueSplit(told, x, 2 * gaps + 2, 1);
        CHECKS.dueLines(told, x, 9, rest, 0);
        CHECKS.dueLines(told, x, 8, 0, 0);
        int at = 0;
        for (int i = 0; i < gaps; i++) {
            int wide = rest / gaps + (i < rest % gaps ? 1 : 0);
            CHECKS.due(told + ": letter " + i, at, x.where(2 * i, 1));
            CHECKS.due(told + ": gap " + i, wide, x.where(2 * i + 1, 2));
            at += 10 + wide;
        }
        CHECKS.due(told + ": the last letter", at, x.where(2 * gaps, 1));
        CHECKS.due(told + ": the trailing one stands behind", at + 10, x.where(2 * gaps + 1, 1));
        CHECKS.due(told + ": the trailing one is no gap", 3, x.where(2 * gaps + 1, 2));
        CHECKS.due(told + ": the end is as without", 10 * gaps + 10, x.line(0, 4));
    }

    /** "the BLANKs of the line behind its last TAB that aren't trailing are its GAPS" */
    private static void gapsBehindTheLastTab() {
        PageLayout x = made(75, kinds(LETTER, BLANK, TAB, BLANK, LETTER, BLANK, LETTER, BLANK, LETTER),
            10, 1, 0, 1, 10, 1, 10, 1, 4000);
        x.shape(0, 5, 3);
        CHECKS.dueSplit("behind it", x, 8, 1);
        CHECKS.dueSigns("behind it", x, 2, 10, 1, 39, 3, 10, 2, 10, 1, 4000);
        CHECKS.dueSigns("behind it", x, 1, 0, 10, 11, 50, 53, 63, 65, 75, 0);
        PageLayout two = made(175, kinds(TAB, LETTER, BLANK, LETTER, TAB, LETTER, BLANK, LETTER,
            HYPHEN, LETTER), 0, 10, 1, 10, 0, 10, 1, 10, 1, 4000);
        two.shape(0, 5, 3);
        CHECKS.dueSplit("behind the last of two", two, 9, 1);
        CHECKS.dueLines("behind the last of two", two, 9, 53, 0);
        CHECKS.due("none behind the first", 1, two.where(2, 2));
        CHECKS.due("all behind the last", 54, two.where(6, 2));
        PageLayout last = made(60, kinds(LETTER, BLANK, LETTER, TAB, TAB), 10, 1, 10, 0, 0);
        last.shape(0, 5, 3);
        CHECKS.dueSplit("a TAB as the last sign", last, 4, 1);
        CHECKS.dueLines("no gap behind it", last, 9, 0, 0);
        CHECKS.due("none ahead of it", 1, last.where(1, 2));
        PageLayout ahead = made(30, kinds(LETTER, BLANK, LETTER, TAB), 10, 1, 10, 0);
        ahead.shape(0, 5, 3);
        CHECKS.dueSplit("a TAB of the next line", ahead, 3, 1);
        CHECKS.dueLines("is none of this line", ahead, 9, 9, 0);
        CHECKS.due("so there is a gap", 10, ahead.where(1, 2));
    }

    /** "if there are any" */
    private static void noGaps() {
        PageLayout x = made(20, kinds(LETTER, BLANK, LETTER), 10, 5, 20);
        x.shape(0, 5, 3);
        CHECKS.dueSplit("only a trailing one", x, 2, 1);
        CHECKS.dueLines("only a trailing one", x, 9, 0, 0);
        CHECKS.dueLines("not moved", x, 8, 0, 0);
        CHECKS.dueSigns("as wide as it is", x, 2, 10, 5, 20);
        PageLayout none = made(20, kinds(HYPHEN, LETTER), 10, 20);
        none.shape(0, 5, 3);
        CHECKS.dueSplit("none at all", none, 1, 1);
        CHECKS.dueLines("none at all", none, 9, 0, 0);
    }

    /** "and the line isn't the last one of its paragraph" */
    private static void lastLineIsNotWidened() {
        PageLayout x = Checks.written(30, "x x x x");
        x.shape(0, 5, 3);
        x.paragraph();
        Checks.write(x, "x x");
        x.shape(1, 5, 3);
        CHECKS.dueSplit("last lines", x, 4, 3, 3);
        CHECKS.dueLines("only the line ahead of a last one", x, 9, 6, 0, 0);
        CHECKS.dueSigns("gaps", x, 2, 10, 10, 10, 4, 10, 4, 10, 10, 4, 10);
    }

    /** "and doesn't end with LINE END or PAGE END" */
    private static void endedLineIsNotWidened() {
        for (int end = LINE_END; end <= PAGE_END; end++) {
            PageLayout x = made(30, kinds(LETTER, BLANK, LETTER, BLANK, end, LETTER), 10, 4, 10, 4,
                0, 10);
            x.shape(0, 5, 3);
            CHECKS.dueSplit("kind " + end, x, 5, 1);
            CHECKS.dueLines("kind " + end, x, 9, 0, 0);
            CHECKS.dueSigns("kind " + end, x, 2, 10, 4, 10, 4, 0, 10);
        }
    }

    /** "Its height is the greatest of its signs' heights and the paragraph's least one." */
    private static void greatestHeight() {
        for (int kind = LETTER; kind <= PAGE_END; kind++) {
            PageLayout x = new PageLayout();
            x.paragraph();
            x.shape(0, 10, 5);
            x.sign(LETTER, 1, 4);
            x.sign(kind, 1, 6);
            x.lay();
            CHECKS.due("a sign of kind " + kind + " counts", 6, x.line(x.where(1, 0), 5));
        }
        int[] heights = {0, 4, 5, 6, 2000};
        int[] want = {5, 5, 5, 6, 2000};
        for (int i = 0; i < heights.length; i++) {
            PageLayout x = new PageLayout();
            x.paragraph();
            x.shape(0, 10, 5);
            x.sign(LETTER, 1, heights[i]);
            x.sign(LETTER, 1, 0);
            x.lay();
            CHECKS.due("height " + heights[i], want[i], x.line(0, 5));
        }
    }
}
