import java.util.Random;

/**
 * All promises: runs of 512 drawn calls, the same ones each time, with arguments within their
 * ranges, at their edges, beyond them, and of any size, each answer against PlainObject's.
 */
public final class AnyCallsTest {
    private static final Checks CHECKS = new Checks();
    private static final int RUNS = 1200;
    private static final int CALLS = 512;

    public static void main(String[] args) {
        for (int run = 0; run < RUNS; run++) {
            new AnyCallsTest(run).compare();
        }
        CHECKS.close("AnyCallsTest");
    }

    private final int run;
    private final Random random;
    private final PageLayout x = new PageLayout();
    private final PlainObject plain = new PlainObject();
    private final int unit;
    private int calls;

    private AnyCallsTest(int run) {
        this.run = run;
        random = new Random(run);
        unit = new int[] {1, 3, 50, 500}[run % 4];
    }

    private void compare() {
        while (calls < CALLS) {
            int drawn = random.nextInt(100);
            if (drawn < 45) {
                compareCall("sign", near(7, 6), near(8 * unit, 4000), near(4 * unit, 2000));
            } else if (drawn < 49) {
                compareCall("paragraph", 0, 0, 0);
            } else if (drawn < 56) {
                drawShape();
            } else if (drawn < 60) {
                compareCall("stop", near(plain.count(0), 29), near(60 * unit, 30000), near(3, 2));
            } else if (drawn < 63) {
                compareCall("sheet", near(60 * unit, 30000), near(40 * unit, 30000),
                    near(25 * unit, 30000));
            } else if (drawn < 64) {
                compareCall(random.nextInt(3) == 0 ? "clear" : "count", near(4, 3), 0, 0);
            } else {
                drawQuestion(drawn);
            }
        }
    }

    private void drawShape() {
        int what = near(11, 10);
        int value = what == 2 ? near(40 * unit, 5000) - 20 * unit
            : what >= 5 && what <= 9 ? near(what == 5 ? 4 : 2, 1) : near(15 * unit, 5000);
        compareCall("shape", near(plain.count(0), 29), what, value);
    }

    private void drawQuestion(int drawn) {
        if (plain.count(2) == 0 && random.nextInt(3) == 0) {
            compareCall("lay", 0, 0, 0);
        }
        if (drawn < 76) {
            compareCall("line", near(plain.count(2), 629), near(10, 9), 0);
        } else if (drawn < 88) {
            compareCall("where", near(plain.count(1), 599), near(3, 2), 0);
        } else if (drawn < 93) {
            compareCall("page", near(plain.count(3), 629), near(3, 2), 0);
        } else {
            compareCall("hit", near(plain.count(3), 629), near(60 * unit, 30000),
                near(40 * unit, 30000));
        }
    }

    /** Mostly a number below one, now and then the most, one at an edge, or any. */
    private int near(int below, int most) {
        int drawn = random.nextInt(60);
        if (drawn == 0) {
            int[] far = {Integer.MIN_VALUE, Integer.MAX_VALUE, -1, -most, -most - 1, random.nextInt()};
            return far[random.nextInt(far.length)];
        }
        if (drawn == 1) {
            int[] edges = {most, most + 1, below, below - 1, 0, 1};
            return edges[random.nextInt(edges.length)];
        }
        return below > 0 ? random.nextInt(below) : 0;
    }

    private void compareCall(String name, int a, int b, int c) {
        calls++;
        String got = answer(name, a, b, c);
        CHECKS.due("run " + run + ": " + name + "(" + a + ", " + b + ", " + c + ")",
            plain.call(name, a, b, c), got);
    }

    private String answer(String name, int a, int b, int c) {
        switch (name) {
            case "clear":
                return Answers.of((Checks.Call) () -> x.clear());
            case "paragraph":
                return Answers.of(() -> x.paragraph());
            case "sign":
                return Answers.of(() -> x.sign(a, b, c));
            case "shape":
                return Answers.of((Checks.Call) () -> x.shape(a, b, c));
            case "stop":
                return Answers.of(() -> x.stop(a, b, c));
            case "sheet":
                return Answers.of((Checks.Call) () -> x.sheet(a, b, c));
            case "lay":
                return Answers.of(() -> x.lay());
            case "count":
                return Answers.of(() -> x.count(a));
            case "line":
                return Answers.of(() -> x.line(a, b));
            case "where":
                return Answers.of(() -> x.where(a, b));
            case "page":
                return Answers.of(() -> x.page(a, b));
            default:
                return Answers.of(() -> x.hit(a, b, c));
        }
    }
}
