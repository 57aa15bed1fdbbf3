/** All promises: long runs of calls, in which PotLabels and the Model must answer alike. */
public final class ModelTest {
    private static final int RUNS = 300;
    /** A step may be several calls; an object's 512 calls are not passed. */
    private static final int STEPS = 100;
    private static final String TEXT = "01234567=;9x";

    private static int seed = 7;

    private final PotLabels real = new PotLabels();
    private final Model model = new Model();
    /** How wild arguments are: of so many, one is out of its range. */
    private final int wild;

    private ModelTest(int wild) {
        this.wild = wild;
    }

    private interface Answer {
        long get();
    }

    public static void main(String[] args) {
        for (int run = 0; run < RUNS; run++) {
            ModelTest test = new ModelTest(run % 4 == 0 ? 8 : 40);
            for (int step = 0; step < STEPS; step++) {
                test.step("run " + run + ", step " + step + ": ");
            }
        }
        Check.finish();
    }

    private static int number(int below) {
        seed = seed * 1103515245 + 12345;
        return (seed >>> 16) % below;
    }

    /** A number of least to most; now and then one behind either end, or far off. */
    private int some(int least, int most) {
        if (number(wild) == 0) {
            int[] off = {least - 1, most + 1, Integer.MIN_VALUE, Integer.MAX_VALUE, most + 7, least - 3};
            return off[number(off.length)];
        }
        return least + number(most - least + 1);
    }

    private void alike(String call, Answer real, Answer model) {
        String want = answer(model);
        String got = answer(real);
        Check.isTrue(call + " answered " + got + ", due is " + want, want.equals(got));
    }

    private static String answer(Answer call) {
        try {
            return Long.toString(call.get());
        } catch (RuntimeException thrown) {
            return thrown.getClass().getName();
        }
    }

    private void step(String name) {
        int choice = number(40);
        if (choice < 12) {
            change(name);
        } else if (choice < 16) {
            chart(name);
        } else if (choice < 19) {
            type(name);
        } else if (choice < 22) {
            text(name);
        } else if (choice < 27) {
            snapshot(name);
        } else if (choice < 33) {
            look(name);
        } else {
            wouldBe(name);
        }
        if (number(6) == 0) {
            alike(name + "digest()", () -> real.digest(), () -> model.digest());
        }
    }

    private void change(String name) {
        int a = some(0, 7);
        int p = some(0, 3);
        switch (number(5)) {
            case 0: {
                int b = some(0, 2);
                int c = some(0, 9);
                alike(name + "mix", () -> real.mix(a, b, c), () -> model.mix(a, b, c));
                break;
            }
            case 1: {
                int b = some(0, 1);
                int c = some(0, b == 0 ? 3 : number(3) == 0 ? 27 : 9);
                alike(name + "painter", () -> real.painter(p, b, c), () -> model.painter(p, b, c));
                break;
            }
            case 2: {
                int b = some(0, 3);
                alike(name + "borrow", () -> real.borrow(p, b), () -> model.borrow(p, b));
                break;
            }
            case 3: {
                int b = some(-1, 7);
                alike(name + "label", () -> real.label(a, b), () -> model.label(a, b));
                break;
            }
            default:
                alike(name + "labelAll", () -> real.labelAll(p), () -> model.labelAll(p));
                break;
        }
    }

    private void chart(String name) {
        int a = some(0, 7);
        int b = some(0, 7);
        int chart = some(0, 5);
        int p = some(0, 3);
        switch (number(6)) {
            case 0:
                alike(name + "takeDown", () -> real.takeDown(chart), () -> model.takeDown(chart));
                break;
            case 1:
            case 2:
                alike(name + "correct", () -> real.correct(chart, p), () -> model.correct(chart, p));
                break;
            default:
                alike(name + "hang", () -> real.hang(a, b), () -> model.hang(a, b));
                break;
        }
    }

    /** Some pots, now and then with a sign that is wrong or without an end. */
    private void type(String name) {
        StringBuilder text = new StringBuilder();
        for (int pots = 1 + number(number(5) == 0 ? 12 : 4); pots > 0; pots--) {
            text.append(number(8)).append('=').append(number(10)).append(number(10)).append(number(10));
            text.append(pots > 1 ? ";" : "");
        }
        if (number(4) == 0) {
            text.setCharAt(number(text.length()), TEXT.charAt(number(TEXT.length())));
        }
        if (number(6) == 0) {
            text.setLength(number(text.length()));
        }
        for (int i = 0; i < text.length(); i++) {
            int code = text.charAt(i);
            alike(name + "append", () -> real.append(code), () -> model.append(code));
        }
    }

    private void text(String name) {
        int code = some(33, 126);
        switch (number(8)) {
            case 0:
                alike(name + "append", () -> real.append(code), () -> model.append(code));
                break;
            case 1:
                alike(name + "clearBuffer", () -> real.clearBuffer(), () -> model.clearBuffer());
                break;
            case 2:
            case 3:
                alike(name + "firstError", () -> real.firstError(), () -> model.firstError());
                break;
            default:
                alike(name + "firstError", () -> real.firstError(), () -> model.firstError());
                alike(name + "load", () -> real.load(), () -> model.load());
                alike(name + "clearBuffer", () -> real.clearBuffer(), () -> model.clearBuffer());
                break;
        }
    }

    private void snapshot(String name) {
        int slot = some(0, 1);
        switch (number(4)) {
            case 0:
                alike(name + "keep", () -> real.keep(slot), () -> model.keep(slot));
                break;
            case 1:
                alike(name + "goBack", () -> real.goBack(slot), () -> model.goBack(slot));
                break;
            default:
                alike(name + "undo", () -> real.undo(), () -> model.undo());
                break;
        }
    }

    private void look(String name) {
        int a = some(0, 7);
        int b = some(0, 7);
        int p = some(0, 3);
        int what = some(0, 6);
        switch (number(6)) {
            case 0:
                alike(name + "potOf", () -> real.potOf(a, what), () -> model.potOf(a, what));
                break;
            case 1:
                alike(name + "seen", () -> real.seen(p, a), () -> model.seen(p, a));
                break;
            case 2:
                alike(name + "painterOf", () -> real.painterOf(p, what), () -> model.painterOf(p, what));
                break;
            case 3:
                alike(name + "apart", () -> real.apart(p, a, b), () -> model.apart(p, a, b));
                break;
            case 4:
                alike(name + "chartOf", () -> real.chartOf(a, what), () -> model.chartOf(a, what));
                break;
            default:
                alike(name + "count", () -> real.count(a), () -> model.count(a));
                break;
        }
    }

    private void wouldBe(String name) {
        int a = some(0, 7);
        int b = some(0, 7);
        int p = some(0, 3);
        int q = some(0, 3);
        int what = some(0, 1);
        switch (number(5)) {
            case 0:
                alike(name + "fewest", () -> real.fewest(p, what), () -> model.fewest(p, what));
                break;
            case 1:
                alike(name + "ifBorrowed", () -> real.ifBorrowed(p, q), () -> model.ifBorrowed(p, q));
                break;
            case 2:
                alike(name + "leastChange", () -> real.leastChange(p, a, b), () -> model.leastChange(p, a, b));
                break;
            case 3:
                alike(name + "bestPainter", () -> real.bestPainter(), () -> model.bestPainter());
                break;
            default:
                alike(name + "apartShare", () -> Double.doubleToLongBits(real.apartShare()),
                        () -> Double.doubleToLongBits(model.apartShare()));
                break;
        }
    }
}
