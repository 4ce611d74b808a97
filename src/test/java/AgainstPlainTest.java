import java.util.Random;

/** Promises 8 to 13 on many drawn texts, the same ones each time, against PlainLayout. */
public final class AgainstPlainTest {
    private static final Checks CHECKS = new Checks();
    private static final int RUNS = 4000;

    public static void main(String[] args) {
        for (int run = 0; run < RUNS; run++) {
            new AgainstPlainTest(run).compare();
        }
        CHECKS.close("AgainstPlainTest");
    }

    private final int run;
    private final Random random;
    private final PageLayout x = new PageLayout();
    private final PlainLayout plain = new PlainLayout();
    private final int unit;

    private AgainstPlainTest(int run) {
        this.run = run;
        random = new Random(run);
        unit = run % 5 == 0 ? 100 : 1 + random.nextInt(4);
    }

    private void compare() {
        for (int round = 0; round < 3; round++) {
            if (random.nextInt(4) == 0) {
                x.clear();
                plain.clear();
            }
            drawSheet();
            int paragraphs = random.nextInt(5);
            for (int i = 0; i < paragraphs && plain.paragraphs.size() < 30; i++) {
                drawParagraph();
            }
            compareAll();
        }
    }

    private void drawSheet() {
        plain.wide = 1 + random.nextInt(60 * unit);
        plain.high = 1 + random.nextInt(50 * unit);
        plain.step = 1 + random.nextInt(25 * unit);
        x.sheet(plain.wide, plain.high, plain.step);
    }

    private void drawParagraph() {
        int p = x.paragraph();
        plain.paragraph();
        int[] most = {20, 20, 20, 8, 8, 3, 1, 1, 1, 1, 6};
        for (int what = 0; what < 11; what++) {
            if (random.nextInt(what == 9 ? 8 : 3) == 0) {
                drawShape(p, what, most[what]);
            }
        }
        int stops = random.nextInt(2) == 0 ? 0 : random.nextInt(6);
        int place = 0;
        for (int i = 0; i < stops; i++) {
            place += 1 + random.nextInt(18 * unit);
            int kind = random.nextInt(3);
            x.stop(p, place, kind);
            plain.stop(p, place, kind);
        }
        int signs = random.nextInt(4) == 0 ? random.nextInt(3) : random.nextInt(40);
        String kinds = new String[] {"00001", "000112345", "0123456", "01222", "00144", "0001234"}
            [random.nextInt(6)];
        for (int i = 0; i < signs && plain.signs.size() < 600; i++) {
            int kind = kinds.charAt(random.nextInt(kinds.length())) - '0';
            int width = random.nextInt(8 * unit);
            int height = random.nextInt(8 * unit);
            x.sign(kind, width, height);
            plain.sign(kind, width, height);
        }
    }

    private void drawShape(int p, int what, int most) {
        int value = what >= 5 && what <= 9 ? random.nextInt(most + 1)
            : what == 2 ? random.nextInt(2 * most * unit) - most * unit
            : what == 10 ? 1 + random.nextInt(most * unit)
            : random.nextInt(most * unit);
        x.shape(p, what, value);
        plain.paragraphs.get(p).shape[what] = value;
    }

    private void compareAll() {
        String told = "run " + run + ": ";
        CHECKS.due(told + "lay()", plain.lay(), x.lay());
        int[] counts = {plain.paragraphs.size(), plain.signs.size(), plain.lines.size(),
            plain.pages.size()};
        for (int what = 0; what < 4; what++) {
            CHECKS.due(told + "count(" + what + ")", counts[what], x.count(what));
        }
        for (int i = 0; i < Math.min(counts[2], x.count(2)); i++) {
            for (int what = 0; what < 10; what++) {
                CHECKS.due(told + "line(" + i + ", " + what + ")",
                    plain.lines.get(i).told[what], x.line(i, what));
            }
        }
        for (int i = 0; i < counts[1]; i++) {
            PlainLayout.Sign s = plain.signs.get(i);
            CHECKS.due(told + "where(" + i + ", 0)", s.line, x.where(i, 0));
            CHECKS.due(told + "where(" + i + ", 1)", s.from, x.where(i, 1));
            CHECKS.due(told + "where(" + i + ", 2)", s.wide, x.where(i, 2));
        }
        for (int i = 0; i < Math.min(counts[3], x.count(3)); i++) {
            comparePage(told, i);
        }
    }

    private void comparePage(String told, int page) {
        for (int what = 0; what < 3; what++) {
            CHECKS.due(told + "page(" + page + ", " + what + ")",
                plain.pages.get(page)[what], x.page(page, what));
        }
        for (int i = 0; i < 12; i++) {
            int across = random.nextInt(90 * unit) - 10 * unit;
            int down = random.nextInt(60 * unit) - 5 * unit;
            CHECKS.due(told + "hit(" + page + ", " + across + ", " + down + ")",
                plain.hit(page, across, down), x.hit(page, across, down));
        }
    }
}
