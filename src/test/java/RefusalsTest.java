/**
 * Promises 3 to 7 and 9 to 13 and the exceptions of the Terms: each call with arguments at its
 * edges, beyond them, and as small and large as an int can be, on objects from new to full. Of
 * several exceptions that apply the first one listed is due, and what throws changes nothing.
 */
public final class RefusalsTest {
    private static final Checks CHECKS = new Checks();
    private static final int LEAST = Integer.MIN_VALUE;
    private static final int MOST = Integer.MAX_VALUE;
    private static final int STATES = 8;
    private static final String NO_SUCH = "NoSuchElementException";
    private static final String ARGUMENT = "IllegalArgumentException";
    private static final String STATE = "IllegalStateException";

    public static void main(String[] args) {
        for (int state = 0; state < STATES; state++) {
            paragraphs(state);
            signs(state);
            shapes(state);
            stops(state);
            sheets(state);
            counts(state);
            lines(state);
            wheres(state);
            pages(state);
            hits(state);
        }
        CHECKS.close("RefusalsTest");
    }

    /** New, cleared, an empty paragraph, a text, a text that is laid out, and three full ones. */
    private static PageLayout made(int state) {
        PageLayout x = new PageLayout();
        if (state == 0) {
            return x;
        }
        x.sheet(45, 30, 20);
        if (state == 2) {
            x.paragraph();
        } else if (state != 6 && state != 7) {
            writeTwo(x);
        } else {
            fill(x, state == 6 ? 30 : 1);
        }
        if (state == 1) {
            x.lay();
            x.clear();
        } else if (state == 5) {
            for (int i = 2; i <= 8; i++) {
                x.stop(1, 20 * i, i % 3);
            }
        }
        if (state >= 4) {
            x.lay();
        }
        return x;
    }

    private static void writeTwo(PageLayout x) {
        x.paragraph();
        Checks.write(x, "xx >x~xx/xx ");
        x.shape(0, 5, 3);
        x.shape(0, 4, 3);
        x.paragraph();
        Checks.write(x, "x>x|x- xx");
        x.shape(1, 5, 2);
        x.shape(1, 10, 11);
        x.stop(1, 30, 1);
    }

    /** As many paragraphs with all the signs that there may be in the last of them. */
    private static void fill(PageLayout x, int paragraphs) {
        for (int i = 0; i < paragraphs; i++) {
            x.paragraph();
        }
        for (int i = 0; i < 100; i++) {
            Checks.write(x, "xx >x-");
        }
    }

    private static int stopsOf(int state, int paragraph) {
        return paragraph != 1 ? 0 : state == 5 ? 8 : state == 3 || state == 4 ? 1 : 0;
    }

    private static int lastStopOf(int state, int paragraph) {
        int stops = stopsOf(state, paragraph);
        return stops == 0 ? 0 : stops == 1 ? 30 : 160;
    }

    private static boolean isOutside(int value, int from, int to) {
        return value < from || value > to;
    }

    /** What a call answers on an object, as a text. */
    interface On {
        String answer(PageLayout x);
    }

    /** The call answers so, and if that is an exception or it asks only, nothing is changed. */
    private static void due(String call, int state, String want, boolean asks, On made) {
        PageLayout x = made(state);
        CHECKS.due("state " + state + ": " + call, want, made.answer(x));
        if (asks || want.endsWith("Exception")) {
            boolean isSame = HELD[state].equals(Answers.ofAllHeld(x));
            CHECKS.due("state " + state + ": " + call + " keeps all", 1, isSame ? 1 : 0);
        } else {
            CHECKS.due("state " + state + ": " + call + " forgets lines", 0, x.count(2));
            CHECKS.due("state " + state + ": " + call + " forgets pages", 0, x.count(3));
        }
    }

    private static final String[] HELD = new String[STATES];

    static {
        for (int state = 0; state < STATES; state++) {
            HELD[state] = Answers.ofAllHeld(made(state));
        }
    }

    private static void paragraphs(int state) {
        int have = made(state).count(0);
        String want = have == 30 ? STATE : Integer.toString(have);
        due("paragraph()", state, want, false, x -> Answers.of(() -> x.paragraph()));
    }

    private static void signs(int state) {
        int[] kinds = {LEAST, -1, 0, 6, 7, MOST};
        int[] widths = {LEAST, -1, 0, 4000, 4001, MOST};
        int[] heights = {LEAST, -1, 0, 2000, 2001, MOST};
        PageLayout before = made(state);
        for (int kind : kinds) {
            for (int width : widths) {
                for (int height : heights) {
                    boolean isWrong = isOutside(kind, 0, 6) || isOutside(width, 0, 4000)
                        || isOutside(height, 0, 2000);
                    String want = before.count(0) == 0 ? NO_SUCH : isWrong ? ARGUMENT
                        : before.count(1) == 600 ? STATE : Integer.toString(before.count(1));
                    due("sign(" + kind + ", " + width + ", " + height + ")", state, want, false,
                        x -> Answers.of(() -> x.sign(kind, width, height)));
                }
            }
        }
    }

    private static void shapes(int state) {
        int[] from = {0, 0, -5000, 0, 0, 0, 0, 0, 0, 0, 1};
        int[] to = {5000, 5000, 5000, 5000, 5000, 3, 1, 1, 1, 1, 2000};
        int have = made(state).count(0);
        for (int paragraph : new int[] {LEAST, -1, 0, have - 1, have, 29, 30, MOST}) {
            String none = isOutside(paragraph, 0, have - 1) ? NO_SUCH : null;
            for (int what : new int[] {LEAST, -1, 11, MOST}) {
                for (int value : new int[] {LEAST, 0, 1, MOST}) {
                    shape(state, paragraph, what, value, none == null ? ARGUMENT : none);
                }
            }
            for (int what = 0; what < 11; what++) {
                int[] values = {LEAST, from[what] - 1, from[what], to[what], to[what] + 1, MOST};
                for (int value : values) {
                    String told = isOutside(value, from[what], to[what]) ? ARGUMENT : "void";
                    shape(state, paragraph, what, value, none == null ? told : none);
                }
            }
        }
    }

    private static void shape(int state, int paragraph, int what, int value, String want) {
        due("shape(" + paragraph + ", " + what + ", " + value + ")", state, want, false,
            x -> Answers.of((Checks.Call) () -> x.shape(paragraph, what, value)));
    }

    private static void stops(int state) {
        int have = made(state).count(0);
        for (int paragraph : new int[] {LEAST, -1, 0, have - 1, have, 29, 30, MOST}) {
            int last = lastStopOf(state, paragraph);
            for (int place : new int[] {LEAST, -1, 0, 1, last, last + 1, 30000, 30001, MOST}) {
                for (int kind : new int[] {LEAST, -1, 0, 2, 3, MOST}) {
                    boolean isWrong = isOutside(place, last + 1, 30000) || isOutside(kind, 0, 2);
                    String want = isOutside(paragraph, 0, have - 1) ? NO_SUCH
                        : isWrong ? ARGUMENT : stopsOf(state, paragraph) == 8 ? STATE
                        : Integer.toString(stopsOf(state, paragraph) + 1);
                    due("stop(" + paragraph + ", " + place + ", " + kind + ")", state, want, false,
                        x -> Answers.of(() -> x.stop(paragraph, place, kind)));
                }
            }
        }
    }

    private static void sheets(int state) {
        int[] lengths = {LEAST, -1, 0, 1, 30000, 30001, MOST};
        for (int wide : lengths) {
            for (int high : lengths) {
                for (int step : lengths) {
                    boolean isWrong = isOutside(wide, 1, 30000) || isOutside(high, 1, 30000)
                        || isOutside(step, 1, 30000);
                    due("sheet(" + wide + ", " + high + ", " + step + ")", state,
                        isWrong ? ARGUMENT : "void", false,
                        x -> Answers.of((Checks.Call) () -> x.sheet(wide, high, step)));
                }
            }
        }
    }

    private static void counts(int state) {
        int[] paragraphs = {0, 0, 1, 2, 2, 2, 30, 1};
        int[] signs = {0, 0, 0, 21, 21, 21, 600, 600};
        int[] lines = {0, 0, 0, 0, 6, 6, 229, 200};
        int[] pages = {0, 0, 0, 0, 3, 3, 68, 67};
        int[][] told = {paragraphs, signs, lines, pages};
        for (int what : new int[] {LEAST, -2, -1, 0, 1, 2, 3, 4, 5, MOST}) {
            int want = isOutside(what, 0, 3) ? -1 : told[what][state];
            due("count(" + what + ")", state, Integer.toString(want), true,
                x -> Answers.of(() -> x.count(what)));
        }
    }

    /** What an asking call throws, or what it answers, which other tests tell whether it is due. */
    private static void asked(String call, int state, boolean isNone, boolean isWrong, On made) {
        String want = isNone ? NO_SUCH : isWrong ? ARGUMENT : made.answer(made(state));
        CHECKS.due("state " + state + ": " + call + " throws nothing else",
            isNone || isWrong ? 1 : 0, want.endsWith("Exception") ? 1 : 0);
        due(call, state, want, true, made);
    }

    private static void lines(int state) {
        int have = made(state).count(2);
        for (int line : new int[] {LEAST, -1, 0, have - 1, have, 629, 630, MOST}) {
            for (int what : new int[] {LEAST, -1, 0, 9, 10, MOST}) {
                asked("line(" + line + ", " + what + ")", state, isOutside(line, 0, have - 1),
                    isOutside(what, 0, 9), x -> Answers.of(() -> x.line(line, what)));
            }
        }
    }

    private static void wheres(int state) {
        int have = state >= 4 ? made(state).count(1) : 0;
        int given = made(state).count(1);
        for (int sign : new int[] {LEAST, -1, 0, given - 1, given, 599, 600, MOST}) {
            for (int what : new int[] {LEAST, -1, 0, 2, 3, MOST}) {
                asked("where(" + sign + ", " + what + ")", state, isOutside(sign, 0, have - 1),
                    isOutside(what, 0, 2), x -> Answers.of(() -> x.where(sign, what)));
            }
        }
    }

    private static void pages(int state) {
        int have = made(state).count(3);
        for (int page : new int[] {LEAST, -1, 0, have - 1, have, 629, 630, MOST}) {
            for (int what : new int[] {LEAST, -1, 0, 2, 3, MOST}) {
                asked("page(" + page + ", " + what + ")", state, isOutside(page, 0, have - 1),
                    isOutside(what, 0, 2), x -> Answers.of(() -> x.page(page, what)));
            }
        }
    }

    private static void hits(int state) {
        int have = made(state).count(3);
        int[] places = {LEAST, -1, 0, 1, 30000, MOST};
        for (int page : new int[] {LEAST, -1, 0, have - 1, have, 629, 630, MOST}) {
            for (int across : places) {
                for (int down : places) {
                    asked("hit(" + page + ", " + across + ", " + down + ")", state,
                        isOutside(page, 0, have - 1), false,
                        x -> Answers.of(() -> x.hit(page, across, down)));
                }
            }
        }
    }
}
