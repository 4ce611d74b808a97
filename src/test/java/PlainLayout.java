import java.util.ArrayList;
import java.util.List;

/**
 * The document's terms taken word by word, without regard to speed: every break of a line is
 * tried with all places measured anew. Takes right arguments only.
 */
final class PlainLayout {
    static final class Sign {
        int kind;
        int width;
        int height;
        int line;
        int from;
        int wide;
    }

    static final class Stop {
        int place;
        int kind;
    }

    static final class Paragraph {
        final int[] shape = {0, 0, 0, 0, 0, 0, 0, 0, 0, 0, 1};
        final List<Stop> stops = new ArrayList<>();
        final List<Sign> signs = new ArrayList<>();
        int firstSign;
    }

    static final class Line {
        final int[] told = new int[10];
        Paragraph of;
        boolean isFirst;
        boolean isLast;
        boolean endsPage;
        List<Sign> signs;

        int bottom() {
            return told[7] + told[5];
        }
    }

    final List<Paragraph> paragraphs = new ArrayList<>();
    final List<Sign> signs = new ArrayList<>();
    final List<Line> lines = new ArrayList<>();
    final List<int[]> pages = new ArrayList<>();
    int wide = 10000;
    int high = 15000;
    int step = 700;

    void clear() {
        paragraphs.clear();
        signs.clear();
    }

    void paragraph() {
        Paragraph p = new Paragraph();
        p.firstSign = signs.size();
        paragraphs.add(p);
    }

    void sign(int kind, int width, int height) {
        Sign s = new Sign();
        s.kind = kind;
        s.width = width;
        s.height = height;
        signs.add(s);
        paragraphs.get(paragraphs.size() - 1).signs.add(s);
    }

    void stop(int paragraph, int place, int kind) {
        Stop s = new Stop();
        s.place = place;
        s.kind = kind;
        paragraphs.get(paragraph).stops.add(s);
    }

    int lay() {
        lines.clear();
        pages.clear();
        for (Paragraph p : paragraphs) {
            layParagraph(p);
        }
        int first = 0;
        while (first < lines.size()) {
            first = layPage(first);
        }
        return pages.size();
    }

    private void layParagraph(Paragraph p) {
        int size = p.signs.size();
        int first = 0;
        do {
            int from = first == 0 ? Math.max(0, p.shape[0] + p.shape[2]) : p.shape[0];
            int behind = size == 0 ? 0 : chooseBreak(p, first, from);
            addLine(p, first, behind, from);
            first = behind;
        } while (first < size);
    }

    private int chooseBreak(Paragraph p, int first, int from) {
        List<Integer> breaks = new ArrayList<>();
        for (int b = first + 1; b <= p.signs.size(); b++) {
            int before = p.signs.get(b - 1).kind;
            boolean stopsHere = b == p.signs.size() || before == 5 || before == 6;
            if (stopsHere || before == 1 || before == 3 || before == 4
                    || p.signs.get(b).kind == 2) {
                breaks.add(b);
            }
            if (stopsHere) {
                break;
            }
        }
        int chosen = breaks.get(0);
        for (int b : breaks) {
            if (measure(p, p.signs.subList(first, b), from) <= wide - p.shape[1]) {
                chosen = b;
            }
        }
        return chosen;
    }

    private static boolean isTrailing(List<Sign> line, int at) {
        int i = at;
        while (i < line.size() && line.get(i).kind == 1) {
            i++;
        }
        return i > at && (i == line.size() || i == line.size() - 1 && line.get(i).kind >= 5);
    }

    private static int widthOf(List<Sign> line, int at) {
        Sign s = line.get(at);
        boolean isNone = s.kind >= 5 || s.kind == 4 && at < line.size() - 1;
        return isNone ? 0 : s.width;
    }

    /** Sets the places of the signs of a line, without alignment: its end. */
    private int measure(Paragraph p, List<Sign> line, int from) {
        int at = from;
        int end = from;
        for (int i = 0; i < line.size(); i++) {
            Sign s = line.get(i);
            s.from = at;
            s.wide = s.kind == 2 ? tabWide(p, line, i, at) : widthOf(line, i);
            at += s.wide;
            if (s.kind < 5 && !isTrailing(line, i)) {
                end = at;
            }
        }
        return end;
    }

    private int tabWide(Paragraph p, List<Sign> line, int tab, int at) {
        int w = 0;
        for (int i = tab + 1; i < line.size() && line.get(i).kind != 2; i++) {
            w += isTrailing(line, i) ? 0 : widthOf(line, i);
        }
        Stop least = null;
        for (Stop s : p.stops) {
            if (s.place > at && least == null) {
                least = s;
            }
        }
        if (least == null) {
            int last = p.stops.isEmpty() ? 0 : p.stops.get(p.stops.size() - 1).place;
            least = new Stop();
            least.place = at / step * step;
            while (least.place <= last || least.place <= at) {
                least.place += step;
            }
        }
        int[] less = {0, w, w / 2};
        return Math.max(0, least.place - at - less[least.kind]);
    }

    private void addLine(Paragraph p, int first, int behind, int from) {
        Line line = new Line();
        line.of = p;
        line.signs = p.signs.subList(first, behind);
        line.isFirst = first == 0;
        line.isLast = behind == p.signs.size();
        line.told[0] = paragraphs.indexOf(p);
        line.told[1] = p.firstSign + first;
        line.told[2] = behind - first;
        line.told[3] = from;
        line.told[4] = measure(p, line.signs, from);
        line.told[5] = p.shape[10];
        for (Sign s : line.signs) {
            s.line = lines.size();
            line.told[5] = Math.max(line.told[5], s.height);
            line.endsPage = s.kind == 6;
        }
        align(p, line);
        lines.add(line);
    }

    private void align(Paragraph p, Line line) {
        int rest = Math.max(0, wide - p.shape[1] - line.told[4]);
        if (p.shape[5] == 1 || p.shape[5] == 2) {
            line.told[8] = p.shape[5] == 1 ? rest : rest / 2;
            for (Sign s : line.signs) {
                s.from += line.told[8];
            }
        }
        List<Sign> gaps = new ArrayList<>();
        for (int i = 0; i < line.signs.size(); i++) {
            Sign s = line.signs.get(i);
            if (s.kind == 2) {
                gaps.clear();
            } else if (s.kind == 1 && !isTrailing(line.signs, i)) {
                gaps.add(s);
            }
        }
        boolean isEnded = line.isLast || line.signs.get(line.signs.size() - 1).kind >= 5;
        if (p.shape[5] != 3 || isEnded || gaps.isEmpty()) {
            return;
        }
        line.told[9] = rest;
        for (int i = 0; i < rest; i++) {
            gaps.get(i % gaps.size()).wide++;
        }
        int at = line.told[3];
        for (Sign s : line.signs) {
            s.from = at;
            at += s.wide;
        }
    }

    private int layPage(int first) {
        int can = first;
        for (int i = first; i < lines.size(); i++) {
            Line line = lines.get(i);
            line.told[7] = 0;
            if (i > first) {
                Line before = lines.get(i - 1);
                line.told[7] = before.bottom()
                    + (line.isFirst ? before.of.shape[4] + line.of.shape[3] : 0);
            }
            if (i == first || line.bottom() <= high) {
                can = i;
            }
        }
        int last = lastOfPage(first, can);
        for (int i = first; i <= last; i++) {
            lines.get(i).told[6] = pages.size();
        }
        pages.add(new int[] {first, last - first + 1, lines.get(last).bottom()});
        return last + 1;
    }

    private int lastOfPage(int first, int can) {
        int mayEnd = -1;
        for (int i = first; i <= can; i++) {
            Line line = lines.get(i);
            Line next = i + 1 < lines.size() ? lines.get(i + 1) : null;
            if (line.endsPage || next != null && next.isFirst && next.of.shape[9] == 1) {
                return i;
            }
            boolean widow = line.of.shape[8] == 1 && (line.isFirst || next != null && next.isLast);
            if (next == null) {
                continue;
            }
            if (next.isFirst ? line.of.shape[6] == 0 : line.of.shape[7] == 0 && !widow) {
                mayEnd = i;
            }
        }
        return can < lines.size() - 1 && mayEnd >= 0 ? mayEnd : can;
    }

    int hit(int page, int x, int y) {
        int[] told = pages.get(page);
        Line hit = lines.get(told[0]);
        for (int i = told[0]; i < told[0] + told[1]; i++) {
            hit = lines.get(i).told[7] <= y ? lines.get(i) : hit;
        }
        for (int i = 0; i < hit.signs.size(); i++) {
            Sign s = hit.signs.get(i);
            if (s.kind < 5 && s.from + s.wide / 2 > x) {
                return hit.told[1] + i;
            }
        }
        int last = hit.signs.size() - 1;
        boolean isEnd = last >= 0 && hit.signs.get(last).kind >= 5;
        return hit.told[1] + (isEnd ? last : last + 1);
    }
}
