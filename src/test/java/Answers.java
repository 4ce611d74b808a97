/** What an object answers, as texts, so that two objects or two states can be compared. */
final class Answers {
    interface Asked {
        int answer();
    }

    private Answers() {
    }

    /** The answer of a call, or the name of what it throws. */
    static String of(Asked asked) {
        try {
            return Integer.toString(asked.answer());
        } catch (RuntimeException e) {
            return e.getClass().getSimpleName();
        }
    }

    /** The same for a call that answers nothing: "void", if nothing is thrown. */
    static String of(Checks.Call made) {
        try {
            made.run();
            return "void";
        } catch (RuntimeException e) {
            return e.getClass().getSimpleName();
        }
    }

    /** All that can be asked without a change: what there is, and the first that there isn't. */
    static String ofAll(PageLayout x) {
        StringBuilder all = new StringBuilder();
        for (int what = -1; what <= 4; what++) {
            all.append(x.count(what)).append(' ');
        }
        for (int i = 0; i < x.count(2); i++) {
            for (int what = 0; what < 10; what++) {
                all.append(x.line(i, what)).append(' ');
            }
        }
        all.append(of(() -> x.line(x.count(2), 0))).append(' ');
        for (int i = 0; i < x.count(1) && x.count(2) > 0; i++) {
            for (int what = 0; what < 3; what++) {
                all.append(x.where(i, what)).append(' ');
            }
        }
        all.append(of(() -> x.where(0, 0))).append(' ').append(of(() -> x.where(x.count(1), 0)));
        for (int i = 0; i < x.count(3); i++) {
            addPage(all, x, i);
        }
        all.append(' ').append(of(() -> x.page(x.count(3), 0))).append(' ');
        return all.toString();
    }

    private static void addPage(StringBuilder all, PageLayout x, int page) {
        for (int what = 0; what < 3; what++) {
            all.append(' ').append(x.page(page, what));
        }
        for (int y = 0; y < 30; y += 9) {
            for (int across = -1; across < 50; across += 17) {
                all.append(' ').append(x.hit(page, across, y));
            }
        }
    }

    /**
     * All that an object holds, what it was given too: it is laid out, and gets one more of each.
     * It is not to be used behind that.
     */
    static String ofAllHeld(PageLayout x) {
        StringBuilder all = new StringBuilder(ofAll(x));
        all.append(of(x::lay)).append(' ').append(ofAll(x));
        all.append(of(() -> x.sign(2, 0, 1))).append(' ');
        for (int i = 0; i < x.count(0); i++) {
            int paragraph = i;
            all.append(of(() -> x.stop(paragraph, 29990, 1))).append(' ');
        }
        all.append(of(x::paragraph)).append(' ').append(of(() -> x.sign(2, 0, 1))).append(' ');
        all.append(of(x::lay)).append(' ').append(ofAll(x));
        return all.toString();
    }
}
