import java.util.Arrays;
import java.util.NoSuchElementException;

/**
 * Lays paragraphs out: signs of given widths and heights become lines, lines are aligned, and
 * pages are filled with them; and tells where everything stands, and what stands where.
 */
public final class PageLayout {
    private static final int MOST_PARAGRAPHS = 30;
    private static final int MOST_SIGNS = 600;
    private static final int MOST_STOPS = 8;
    private static final int MOST_WIDTH = 4000;
    private static final int MOST_HEIGHT = 2000;
    private static final int MOST_LENGTH = 30000;
    /** Every line has a sign of its own, but for the one line of a paragraph without signs. */
    private static final int MOST_LINES = MOST_SIGNS + MOST_PARAGRAPHS;

    private static final int LETTER = 0;
    private static final int BLANK = 1;
    private static final int TAB = 2;
    private static final int HYPHEN = 3;
    private static final int SOFT = 4;
    private static final int LINE_END = 5;
    private static final int PAGE_END = 6;

    private static final int LEFT = 0;
    private static final int RIGHT = 1;
    private static final int FIRST = 2;
    private static final int BEFORE = 3;
    private static final int AFTER = 4;
    private static final int ALIGNED = 5;
    private static final int NEXT = 6;
    private static final int TOGETHER = 7;
    private static final int WIDOWS = 8;
    private static final int BEGINS = 9;
    private static final int LEAST_HEIGHT = 10;
    private static final int SHAPES = 11;
    private static final int[] SHAPE_FROM = {0, 0, -5000, 0, 0, 0, 0, 0, 0, 0, 1};
    private static final int[] SHAPE_TO = {5000, 5000, 5000, 5000, 5000, 3, 1, 1, 1, 1, 2000};

    private static final int ALIGNED_RIGHT = 1;
    private static final int ALIGNED_MIDDLE = 2;
    private static final int ALIGNED_BOTH = 3;

    private static final int STOP_BEGIN = 0;
    private static final int STOP_END = 1;
    private static final int STOP_MIDDLE = 2;

    /** The rows of what is told of a line, each numbered as line() is asked for it. */
    private static final int LINE_PARAGRAPH = 0;
    private static final int LINE_FIRST = 1;
    private static final int LINE_SIGNS = 2;
    private static final int LINE_FROM = 3;
    private static final int LINE_TO = 4;
    private static final int LINE_HEIGHT = 5;
    private static final int LINE_PAGE = 6;
    private static final int LINE_DOWN = 7;
    private static final int LINE_MOVED = 8;
    private static final int LINE_WIDER = 9;
    private static final int LINE_ROWS = 10;

    /** The rows of what is told of a sign, each numbered as where() is asked for it. */
    private static final int SIGN_LINE = 0;
    private static final int SIGN_FROM = 1;
    private static final int SIGN_WIDE = 2;
    private static final int SIGN_ROWS = 3;

    /** The rows of what is told of a page, each numbered as page() is asked for it. */
    private static final int PAGE_FIRST = 0;
    private static final int PAGE_LINES = 1;
    private static final int PAGE_TO = 2;
    private static final int PAGE_ROWS = 3;

    private final Text text;
    private final Sheet sheet;
    private final Lines lines;
    private final Pages pages;
    private boolean laid;

    public PageLayout() {
        text = new Text();
        sheet = new Sheet();
        lines = new Lines(text, sheet);
        pages = new Pages(text, sheet, lines);
        laid = false;
    }

    public void clear() {
        text.paragraphs = 0;
        text.signs = 0;
        forgetLayout();
    }

    public int paragraph() throws IllegalStateException {
        if (text.paragraphs >= MOST_PARAGRAPHS) {
            throw new IllegalStateException("too many paragraphs");
        }
        forgetLayout();
        return text.addParagraph();
    }

    public int sign(int kind, int width, int height)
            throws NoSuchElementException, IllegalArgumentException, IllegalStateException {
        if (text.paragraphs < 1) {
            throw new NoSuchElementException("no paragraph");
        }
        if (isOutside(kind, LETTER, PAGE_END) || isOutside(width, 0, MOST_WIDTH)
                || isOutside(height, 0, MOST_HEIGHT)) {
            throw new IllegalArgumentException("kind, width or height out of range");
        }
        if (text.signs >= MOST_SIGNS) {
            throw new IllegalStateException("too many signs");
        }
        forgetLayout();
        return text.addSign(kind, width, height);
    }

    public void shape(int paragraph, int what, int value)
            throws NoSuchElementException, IllegalArgumentException {
        if (isOutside(paragraph, 0, text.paragraphs - 1)) {
            throw new NoSuchElementException("no such paragraph");
        }
        if (isOutside(what, 0, SHAPES - 1) || isOutside(value, SHAPE_FROM[what], SHAPE_TO[what])) {
            throw new IllegalArgumentException("what or value out of range");
        }
        forgetLayout();
        text.paragraph[paragraph].shape[what] = value;
    }

    public int stop(int paragraph, int place, int kind)
            throws NoSuchElementException, IllegalArgumentException, IllegalStateException {
        if (isOutside(paragraph, 0, text.paragraphs - 1)) {
            throw new NoSuchElementException("no such paragraph");
        }
        Paragraph changed = text.paragraph[paragraph];
        if (isOutside(place, changed.lastStop() + 1, MOST_LENGTH)
                || isOutside(kind, STOP_BEGIN, STOP_MIDDLE)) {
            throw new IllegalArgumentException("place or kind out of range");
        }
        if (changed.stops >= MOST_STOPS) {
            throw new IllegalStateException("too many stops");
        }
        forgetLayout();
        return changed.addStop(place, kind);
    }

    public void sheet(int wide, int high, int step) throws IllegalArgumentException {
        if (isOutside(wide, 1, MOST_LENGTH) || isOutside(high, 1, MOST_LENGTH)
                || isOutside(step, 1, MOST_LENGTH)) {
            throw new IllegalArgumentException("wide, high or step out of range");
        }
        forgetLayout();
        sheet.wide = wide;
        sheet.high = high;
        sheet.step = step;
    }

    public int lay() {
        if (!laid) {
            lines.layAll();
            pages.fillAll();
            laid = true;
        }
        return pages.number;
    }

    public int count(int what) {
        switch (what) {
            case 0:
                return text.paragraphs;
            case 1:
                return text.signs;
            case 2:
                return lines.number;
            case 3:
                return pages.number;
            default:
                return -1;
        }
    }

    public int line(int line, int what) throws NoSuchElementException, IllegalArgumentException {
        if (isOutside(line, 0, lines.number - 1)) {
            throw new NoSuchElementException("no such line");
        }
        if (isOutside(what, 0, LINE_ROWS - 1)) {
            throw new IllegalArgumentException("what out of range");
        }
        return lines.told[what][line];
    }

    public int where(int sign, int what) throws NoSuchElementException, IllegalArgumentException {
        if (!laid || isOutside(sign, 0, text.signs - 1)) {
            throw new NoSuchElementException("no such sign, or nothing is laid out");
        }
        if (isOutside(what, 0, SIGN_ROWS - 1)) {
            throw new IllegalArgumentException("what out of range");
        }
        return lines.place[what][sign];
    }

    public int page(int page, int what) throws NoSuchElementException, IllegalArgumentException {
        if (isOutside(page, 0, pages.number - 1)) {
            throw new NoSuchElementException("no such page");
        }
        if (isOutside(what, 0, PAGE_ROWS - 1)) {
            throw new IllegalArgumentException("what out of range");
        }
        return pages.told[what][page];
    }

    public int hit(int page, int x, int y) throws NoSuchElementException {
        if (isOutside(page, 0, pages.number - 1)) {
            throw new NoSuchElementException("no such page");
        }
        return lines.signAhead(pages.lineAt(page, y), x);
    }

    private void forgetLayout() {
        laid = false;
        lines.number = 0;
        pages.number = 0;
    }

    private static boolean isOutside(int value, int from, int to) {
        return value < from || value > to;
    }

    /** How wide and high a page is, and the step of the stops that all paragraphs have. */
    private static final class Sheet {
        int wide = 10000;
        int high = 15000;
        int step = 700;
    }

    /** A paragraph's shape and stops, and which signs it has. */
    private static final class Paragraph {
        final int[] shape = new int[SHAPES];
        final int[] stopPlace = new int[MOST_STOPS];
        final int[] stopKind = new int[MOST_STOPS];
        int stops;
        int first;
        int behind;

        /** Makes it a new one without signs: the object is used again after a clear(). */
        void renew(int firstSign) {
            Arrays.fill(shape, 0);
            shape[LEAST_HEIGHT] = 1;
            stops = 0;
            first = firstSign;
            behind = firstSign;
        }

        int lastStop() {
            return stops > 0 ? stopPlace[stops - 1] : 0;
        }

        int addStop(int at, int kind) {
            stopPlace[stops] = at;
            stopKind[stops] = kind;
            stops++;
            return stops;
        }

        /** How wide a TAB is that begins at a place, if the signs it moves are so wide. */
        int tabWidth(int from, int follow, int step) {
            int own = ownStopAbove(from);
            int stopAt = own < stops ? stopPlace[own] : stepAbove(Math.max(from, lastStop()), step);
            int kind = own < stops ? stopKind[own] : STOP_BEGIN;
            int wide = stopAt - from;
            if (kind == STOP_END) {
                wide -= follow;
            } else if (kind == STOP_MIDDLE) {
                wide -= follow / 2;
            }
            return Math.max(0, wide);
        }

        private int ownStopAbove(int from) {
            int own = 0;
            while (own < stops && stopPlace[own] <= from) {
                own++;
            }
            return own;
        }

        private static int stepAbove(int from, int step) {
            return step > 0 ? (from / step + 1) * step : from;
        }
    }

    /** The paragraphs and their signs, as they are given. */
    private static final class Text {
        final Paragraph[] paragraph = new Paragraph[MOST_PARAGRAPHS];
        final int[] kind = new int[MOST_SIGNS];
        final int[] width = new int[MOST_SIGNS];
        final int[] height = new int[MOST_SIGNS];
        int paragraphs;
        int signs;

        Text() {
            for (int i = 0; i < MOST_PARAGRAPHS; i++) {
                paragraph[i] = new Paragraph();
            }
        }

        int addParagraph() {
            paragraph[paragraphs].renew(signs);
            paragraphs++;
            return paragraphs - 1;
        }

        int addSign(int itsKind, int itsWidth, int itsHeight) {
            kind[signs] = itsKind;
            width[signs] = itsWidth;
            height[signs] = itsHeight;
            signs++;
            paragraph[paragraphs - 1].behind = signs;
            return signs - 1;
        }

        boolean endsLine(int at) {
            return kind[at] == LINE_END || kind[at] == PAGE_END;
        }

        /** Whether a line may go up to this sign of a paragraph. */
        boolean isBreakBehind(int at, Paragraph of) {
            if (at + 1 >= of.behind || kind[at + 1] == TAB) {
                return true;
            }
            return kind[at] == BLANK || kind[at] == HYPHEN || kind[at] == SOFT || endsLine(at);
        }

        /** How wide a sign other than a TAB is within a line, or as the last one of it. */
        int widthWithin(int at, boolean isLast) {
            if (endsLine(at) || (kind[at] == SOFT && !isLast)) {
                return 0;
            }
            return width[at];
        }

        /** The sign behind the last one of a line that is neither trailing nor ends the line. */
        int solidBehind(int from, int behind) {
            int solid = behind;
            if (solid > from && endsLine(solid - 1)) {
                solid--;
            }
            while (solid > from && kind[solid - 1] == BLANK) {
                solid--;
            }
            return solid;
        }
    }

    /**
     * Tells the end of a line that grows sign by sign. Only what stands behind the latest TAB can
     * still change with the signs to come, so nothing else needs to be measured again.
     */
    private static final class Ruler {
        private final Text text;
        private final Sheet sheet;
        private Paragraph paragraph;
        private boolean hasTab;
        private int from;
        private int widths;
        private int solidWidths;

        Ruler(Text text, Sheet sheet) {
            this.text = text;
            this.sheet = sheet;
        }

        void begin(Paragraph of, int at) {
            paragraph = of;
            hasTab = false;
            beginStretch(at);
        }

        void add(int at) {
            if (text.kind[at] == TAB) {
                beginStretch(endWith(widths));
                hasTab = true;
                return;
            }
            widths += text.widthWithin(at, false);
            if (text.kind[at] != BLANK && !text.endsLine(at)) {
                solidWidths = widths;
            }
        }

        /** The end of all lines that go on from here is here or further right. */
        int leastEnd() {
            return endWith(solidWidths);
        }

        /** The end of the line if this sign, the latest that was added, is its last one. */
        int endBehind(int at) {
            return endWith(text.kind[at] == SOFT ? widths + text.width[at] : solidWidths);
        }

        private void beginStretch(int at) {
            from = at;
            widths = 0;
            solidWidths = 0;
        }

        private int endWith(int follow) {
            int tabWide = hasTab && paragraph != null
                    ? paragraph.tabWidth(from, follow, sheet.step) : 0;
            return from + tabWide + follow;
        }
    }

    /** The lines that are laid out, and where their signs stand. */
    private static final class Lines {
        final int[][] told = new int[LINE_ROWS][MOST_LINES];
        final int[][] place = new int[SIGN_ROWS][MOST_SIGNS];
        int number;
        private final Text text;
        private final Sheet sheet;
        private final Ruler ruler;

        Lines(Text text, Sheet sheet) {
            this.text = text;
            this.sheet = sheet;
            ruler = new Ruler(text, sheet);
        }

        void layAll() {
            number = 0;
            for (int i = 0; i < text.paragraphs; i++) {
                layLinesOf(i);
            }
        }

        private void layLinesOf(int which) {
            Paragraph of = text.paragraph[which];
            int left = of.shape[LEFT];
            int from = Math.max(0, left + of.shape[FIRST]);
            if (of.first >= of.behind) {
                addLine(which, of.first, of.first, from);
            }
            int first = of.first;
            while (first < of.behind) {
                int behind = Math.max(first + 1, lineBehind(of, first, from));
                addLine(which, first, behind, from);
                first = behind;
                from = left;
            }
        }

        /** The sign ahead of which the line ends that begins with a sign, at a place. */
        private int lineBehind(Paragraph of, int first, int from) {
            int room = sheet.wide - of.shape[RIGHT];
            int behind = first;
            ruler.begin(of, from);
            for (int i = first; i < of.behind; i++) {
                ruler.add(i);
                if (text.isBreakBehind(i, of)
                        && (behind == first || ruler.endBehind(i) <= room)) {
                    behind = i + 1;
                }
                boolean isFull = behind > first && ruler.leastEnd() > room;
                if (isFull || text.endsLine(i)) {
                    break;
                }
            }
            return behind;
        }

        private void addLine(int which, int first, int behind, int from) {
            Paragraph of = text.paragraph[which];
            int solid = text.solidBehind(first, behind);
            placeSigns(of, first, behind, from);
            told[LINE_PARAGRAPH][number] = which;
            told[LINE_FIRST][number] = first;
            told[LINE_SIGNS][number] = behind - first;
            told[LINE_FROM][number] = from;
            told[LINE_TO][number] = solid > first
                    ? place[SIGN_FROM][solid - 1] + place[SIGN_WIDE][solid - 1] : from;
            told[LINE_HEIGHT][number] = heightOf(of, first, behind);
            align(of, first, behind);
            number++;
        }

        private void placeSigns(Paragraph of, int first, int behind, int from) {
            int solid = text.solidBehind(first, behind);
            int at = from;
            for (int i = first; i < behind; i++) {
                int wide = text.kind[i] == TAB
                        ? of.tabWidth(at, widthsBehindTab(i, solid, behind), sheet.step)
                        : text.widthWithin(i, i == behind - 1);
                place[SIGN_LINE][i] = number;
                place[SIGN_FROM][i] = at;
                place[SIGN_WIDE][i] = wide;
                at += wide;
            }
        }

        /** The widths of the signs that a TAB moves; a trailing one has no TAB behind it. */
        private int widthsBehindTab(int tab, int solid, int behind) {
            int sum = 0;
            for (int i = tab + 1; i < solid && text.kind[i] != TAB; i++) {
                sum += text.widthWithin(i, i == behind - 1);
            }
            return sum;
        }

        private int heightOf(Paragraph of, int first, int behind) {
            int high = of.shape[LEAST_HEIGHT];
            for (int i = first; i < behind; i++) {
                high = Math.max(high, text.height[i]);
            }
            return high;
        }

        private void align(Paragraph of, int first, int behind) {
            int rest = Math.max(0, sheet.wide - of.shape[RIGHT] - told[LINE_TO][number]);
            int aligned = of.shape[ALIGNED];
            int moved = 0;
            int wider = 0;
            if (aligned == ALIGNED_RIGHT) {
                moved = rest;
            } else if (aligned == ALIGNED_MIDDLE) {
                moved = rest / 2;
            } else if (aligned == ALIGNED_BOTH
                    && behind < of.behind && !text.endsLine(behind - 1)) {
                wider = widenGaps(first, behind, rest);
            }
            for (int i = first; i < behind; i++) {
                place[SIGN_FROM][i] += moved;
            }
            told[LINE_MOVED][number] = moved;
            told[LINE_WIDER][number] = wider;
        }

        /** Shares the rest out among the gaps of a line: how much of it they took. */
        private int widenGaps(int first, int behind, int rest) {
            int solid = text.solidBehind(first, behind);
            int from = signBehindLastTab(first, behind);
            int gaps = 0;
            for (int i = from; i < solid; i++) {
                gaps += text.kind[i] == BLANK ? 1 : 0;
            }
            if (gaps < 1) {
                return 0;
            }
            int remain = rest % gaps;
            int moved = 0;
            for (int i = from; i < behind; i++) {
                place[SIGN_FROM][i] += moved;
                if (i < solid && text.kind[i] == BLANK) {
                    int more = rest / gaps + (remain > 0 ? 1 : 0);
                    place[SIGN_WIDE][i] += more;
                    moved += more;
                    remain--;
                }
            }
            return rest;
        }

        private int signBehindLastTab(int first, int behind) {
            int from = behind;
            while (from > first && text.kind[from - 1] != TAB) {
                from--;
            }
            return from;
        }

        boolean isFirstOfParagraph(int which) {
            return which < 1
                    || told[LINE_PARAGRAPH][which - 1] != told[LINE_PARAGRAPH][which];
        }

        boolean isLastOfParagraph(int which) {
            return which >= number - 1
                    || told[LINE_PARAGRAPH][which + 1] != told[LINE_PARAGRAPH][which];
        }

        boolean endsPage(int which) {
            int signs = told[LINE_SIGNS][which];
            return signs > 0 && text.kind[told[LINE_FIRST][which] + signs - 1] == PAGE_END;
        }

        /** The sign of a line before which a place across stands. */
        int signAhead(int which, int x) {
            int first = told[LINE_FIRST][which];
            int behind = first + told[LINE_SIGNS][which];
            for (int i = first; i < behind; i++) {
                int middle = place[SIGN_FROM][i] + place[SIGN_WIDE][i] / 2;
                if (middle > x || text.endsLine(i)) {
                    return i;
                }
            }
            return behind;
        }
    }

    /** The pages that are filled with the lines. */
    private static final class Pages {
        final int[][] told = new int[PAGE_ROWS][MOST_LINES];
        int number;
        private final Text text;
        private final Sheet sheet;
        private final Lines lines;

        Pages(Text text, Sheet sheet, Lines lines) {
            this.text = text;
            this.sheet = sheet;
            this.lines = lines;
        }

        void fillAll() {
            number = 0;
            int first = 0;
            while (first < lines.number) {
                int behind = Math.max(first + 1, pageBehind(first));
                addPage(first, behind);
                first = behind;
            }
        }

        private void addPage(int first, int behind) {
            for (int i = first; i < behind; i++) {
                lines.told[LINE_PAGE][i] = number;
            }
            told[PAGE_FIRST][number] = first;
            told[PAGE_LINES][number] = behind - first;
            told[PAGE_TO][number] = bottomOf(behind - 1);
            number++;
        }

        /** The line ahead of which the page ends that begins with a line. */
        private int pageBehind(int first) {
            int can = standLines(first);
            if (can >= lines.number || mustEndAhead(can)) {
                return can;
            }
            for (int i = can; i > first; i--) {
                if (mayEndAhead(i)) {
                    return i;
                }
            }
            return can;
        }

        /**
         * Stands the lines that a page can have below one another, but none behind where it ends:
         * the line behind them. Those that the page gives back are stood anew on the next one.
         */
        private int standLines(int first) {
            lines.told[LINE_DOWN][first] = 0;
            int behind = first + 1;
            while (behind < lines.number && !mustEndAhead(behind)) {
                lines.told[LINE_DOWN][behind] = bottomOf(behind - 1) + spaceAhead(behind);
                if (bottomOf(behind) > sheet.high) {
                    break;
                }
                behind++;
            }
            return behind;
        }

        private int bottomOf(int which) {
            return lines.told[LINE_DOWN][which] + lines.told[LINE_HEIGHT][which];
        }

        private int spaceAhead(int which) {
            if (!lines.isFirstOfParagraph(which)) {
                return 0;
            }
            return paragraphOf(which - 1).shape[AFTER] + paragraphOf(which).shape[BEFORE];
        }

        private Paragraph paragraphOf(int which) {
            return text.paragraph[lines.told[LINE_PARAGRAPH][which]];
        }

        private boolean mustEndAhead(int which) {
            return lines.endsPage(which - 1)
                    || (lines.isFirstOfParagraph(which) && paragraphOf(which).shape[BEGINS] == 1);
        }

        private boolean mayEndAhead(int which) {
            int[] shape = paragraphOf(which - 1).shape;
            if (lines.isFirstOfParagraph(which)) {
                return shape[NEXT] == 0;
            }
            boolean leavesOneAlone = lines.isFirstOfParagraph(which - 1)
                    || lines.isLastOfParagraph(which);
            return shape[TOGETHER] == 0 && (shape[WIDOWS] == 0 || !leavesOneAlone);
        }

        /** The last line of a page that begins at y or higher up; its first one, if none does. */
        int lineAt(int which, int y) {
            int first = told[PAGE_FIRST][which];
            int at = first + told[PAGE_LINES][which] - 1;
            while (at > first && lines.told[LINE_DOWN][at] > y) {
                at--;
            }
            return at;
        }
    }
}
