import java.util.NoSuchElementException;

/** Compares answers with those that are due, and builds paragraphs from short texts. */
final class Checks {
    static final Class<?> NO_SUCH = NoSuchElementException.class;
    static final Class<?> ARGUMENT = IllegalArgumentException.class;
    static final Class<?> STATE = IllegalStateException.class;
    static final int HEIGHT = 8;

    interface Call {
        void run();
    }

    private int right;
    private int wrong;

    void due(String call, long want, long got) {
        if (got == want) {
            right++;
        } else {
            wrong++;
            System.out.println(call + " answered " + got + ", due is " + want);
        }
    }

    void due(String call, String want, String got) {
        if (got.equals(want)) {
            right++;
        } else {
            wrong++;
            System.out.println(call + " answered " + got + ", due is " + want);
        }
    }

    void thrown(String call, Class<?> want, Call made) {
        Class<?> got = null;
        try {
            made.run();
        } catch (RuntimeException e) {
            got = e.getClass();
        }
        if (got == want) {
            right++;
        } else {
            wrong++;
            System.out.println(call + " threw " + got + ", due is " + want);
        }
    }

    void nothingThrown(String call, Call made) {
        thrown(call, null, made);
    }

    /** The answers to one what for the things from 0 on are just these. */
    void dueLines(String told, PageLayout x, int what, int... want) {
        for (int i = 0; i < want.length; i++) {
            due(told + ": line(" + i + ", " + what + ")", want[i], x.line(i, what));
        }
    }

    /** Lays out: the lines have so many signs, and there are no more lines. */
    void dueSplit(String told, PageLayout x, int... want) {
        x.lay();
        due(told + ": count(2)", want.length, x.count(2));
        if (x.count(2) == want.length) {
            dueLines(told, x, 2, want);
        }
    }

    /** Lays out: the pages have so many lines, and there are no more pages. */
    void dueFilled(String told, PageLayout x, int... want) {
        due(told + ": lay()", want.length, x.lay());
        duePages(told, x, 1, want);
    }

    void dueSigns(String told, PageLayout x, int what, int... want) {
        for (int i = 0; i < want.length; i++) {
            due(told + ": where(" + i + ", " + what + ")", want[i], x.where(i, what));
        }
    }

    void duePages(String told, PageLayout x, int what, int... want) {
        due(told + ": count(3)", want.length, x.count(3));
        for (int i = 0; i < want.length && i < x.count(3); i++) {
            due(told + ": page(" + i + ", " + what + ")", want[i], x.page(i, what));
        }
    }

    /**
     * Adds signs to the last paragraph: x a LETTER (10 wide), i one of 3, a blank (4), > a TAB,
     * - a HYPHEN (6), ~ a SOFT one (6), / a LINE END, | a PAGE END (7 given, which don't count).
     */
    static void write(PageLayout x, String text) {
        for (char c : text.toCharArray()) {
            int at = "xi >-~/|".indexOf(c);
            int[] kind = {0, 0, 1, 2, 3, 4, 5, 6};
            int[] width = {10, 3, 4, 7, 6, 6, 7, 7};
            x.sign(kind[at], width[at], HEIGHT);
        }
    }

    /** A new object with one paragraph, on a sheet so wide, 100 high, with stops every 50. */
    static PageLayout written(int wide, String text) {
        PageLayout x = new PageLayout();
        x.sheet(wide, 100, 50);
        x.paragraph();
        write(x, text);
        return x;
    }

    /** Adds one sign to the last paragraph for each kind, all of one height, so wide. */
    static void signs(PageLayout x, int[] kinds, int... widths) {
        for (int i = 0; i < kinds.length; i++) {
            x.sign(kinds[i], widths[i], HEIGHT);
        }
    }

    /** Adds a paragraph of so many lines, each HEIGHT high. */
    static int paragraphOf(PageLayout x, int lines) {
        int number = x.paragraph();
        for (int i = 0; i < lines - 1; i++) {
            write(x, "x/");
        }
        write(x, "x");
        return number;
    }

    void close(String name) {
        System.out.println(name + ": " + right + " answers as due, " + wrong + " not");
        if (wrong != 0 || right == 0) {
            System.exit(1);
        }
    }
}
