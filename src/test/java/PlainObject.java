/** All calls of the document's face over a PlainLayout, with what each throws, as texts. */
final class PlainObject {
    private static final String NO_SUCH = "NoSuchElementException";
    private static final String ARGUMENT = "IllegalArgumentException";
    private static final String STATE = "IllegalStateException";
    private static final int[] SHAPE_FROM = {0, 0, -5000, 0, 0, 0, 0, 0, 0, 0, 1};
    private static final int[] SHAPE_TO = {5000, 5000, 5000, 5000, 5000, 3, 1, 1, 1, 1, 2000};

    final PlainLayout plain = new PlainLayout();
    private boolean isLaid;

    /** What the call of this name with these arguments answers or throws. */
    String call(String name, int a, int b, int c) {
        switch (name) {
            case "clear":
                return clear();
            case "paragraph":
                return paragraph();
            case "sign":
                return sign(a, b, c);
            case "shape":
                return shape(a, b, c);
            case "stop":
                return stop(a, b, c);
            case "sheet":
                return sheet(a, b, c);
            case "lay":
                isLaid = true;
                return told(plain.lay());
            case "count":
                return told(count(a));
            case "hit":
                return isNone(a, count(3)) ? NO_SUCH : told(plain.hit(a, b, c));
            default:
                return asked(name, a, b);
        }
    }

    private String asked(String name, int which, int what) {
        int have = name.equals("where") ? isLaid ? count(1) : 0 : count(name.equals("line") ? 2 : 3);
        if (isNone(which, have)) {
            return NO_SUCH;
        }
        if (isNone(what, name.equals("line") ? 10 : 3)) {
            return ARGUMENT;
        }
        if (name.equals("where")) {
            PlainLayout.Sign s = plain.signs.get(which);
            return told(what == 0 ? s.line : what == 1 ? s.from : s.wide);
        }
        return told(name.equals("line") ? plain.lines.get(which).told[what]
            : plain.pages.get(which)[what]);
    }

    private static String told(int answer) {
        return Integer.toString(answer);
    }

    private static boolean isNone(int which, int have) {
        return which < 0 || which >= have;
    }

    private static boolean isOutside(int value, int from, int to) {
        return value < from || value > to;
    }

    private String clear() {
        plain.clear();
        isLaid = false;
        return "void";
    }

    private String paragraph() {
        if (count(0) == 30) {
            return STATE;
        }
        plain.paragraph();
        isLaid = false;
        return told(count(0) - 1);
    }

    private String sign(int kind, int width, int height) {
        if (count(0) == 0) {
            return NO_SUCH;
        }
        if (isOutside(kind, 0, 6) || isOutside(width, 0, 4000) || isOutside(height, 0, 2000)) {
            return ARGUMENT;
        }
        if (count(1) == 600) {
            return STATE;
        }
        plain.sign(kind, width, height);
        isLaid = false;
        return told(count(1) - 1);
    }

    private String shape(int paragraph, int what, int value) {
        if (isNone(paragraph, count(0))) {
            return NO_SUCH;
        }
        if (isNone(what, 11) || isOutside(value, SHAPE_FROM[what], SHAPE_TO[what])) {
            return ARGUMENT;
        }
        plain.paragraphs.get(paragraph).shape[what] = value;
        isLaid = false;
        return "void";
    }

    private String stop(int paragraph, int place, int kind) {
        if (isNone(paragraph, count(0))) {
            return NO_SUCH;
        }
        PlainLayout.Paragraph p = plain.paragraphs.get(paragraph);
        int have = p.stops.size();
        if (isOutside(place, 1, 30000) || isOutside(kind, 0, 2)
                || have > 0 && place <= p.stops.get(have - 1).place) {
            return ARGUMENT;
        }
        if (have == 8) {
            return STATE;
        }
        plain.stop(paragraph, place, kind);
        isLaid = false;
        return told(have + 1);
    }

    private String sheet(int wide, int high, int step) {
        if (isOutside(wide, 1, 30000) || isOutside(high, 1, 30000) || isOutside(step, 1, 30000)) {
            return ARGUMENT;
        }
        plain.wide = wide;
        plain.high = high;
        plain.step = step;
        isLaid = false;
        return "void";
    }

    int count(int what) {
        switch (what) {
            case 0:
                return plain.paragraphs.size();
            case 1:
                return plain.signs.size();
            case 2:
                return isLaid ? plain.lines.size() : 0;
            case 3:
                return isLaid ? plain.pages.size() : 0;
            default:
                return -1;
        }
    }
}
