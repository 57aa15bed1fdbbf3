/** Promises 5 to 9: label, labelAll, hang, takeDown, correct. */
public final class LabelsAndChartsTest {
    public static void main(String[] args) {
        labelPutsOne();
        labelRefuses();
        labelAllGivesTheLeast();
        labelAllIsNotTheFewest();
        labelAllForAll();
        labelAllRefuses();
        hangUpToSix();
        hangRefuses();
        takeDownMovesThoseBehind();
        takeDownRefuses();
        correctTakesTheNearest();
        correctBreaksTies();
        correctByOtherEyes();
        correctThatCannotBe();
        correctRefuses();
        Check.finish();
    }

    private static void labelPutsOne() {
        PotLabels x = new PotLabels();
        Check.equal("label(7, 7)", -1, x.label(7, 7));
        Check.equal("label(7, 0)", 7, x.label(7, 0));
        Check.equal("label(0, 3)", -1, x.label(0, 3));
        Check.equal("the label", 0, x.potOf(7, 3));
        Check.equal("another label", 3, x.potOf(0, 3));
        Check.equal("label(7, -1)", 0, x.label(7, -1));
        Check.equal("no label", -1, x.potOf(7, 3));
        PotLabels y = new PotLabels();
        Check.undoable(y, "label(3, 4)", () -> y.label(3, 4));
        Check.undoable(y, "label(3, 4) again", () -> y.label(3, 4));
        Check.undoable(y, "label(3, -1)", () -> y.label(3, -1));
    }

    private static void labelRefuses() {
        PotLabels x = new PotLabels();
        x.label(0, 2);
        Check.noPot(x, "label(-1, 0)", () -> x.label(-1, 0));
        Check.noPot(x, "label(8, 0)", () -> x.label(8, 0));
        Check.noPot(x, "label(8, 8)", () -> x.label(8, 8));
        Check.noArgument(x, "label(0, -2)", () -> x.label(0, -2));
        Check.noArgument(x, "label(0, 8)", () -> x.label(0, 8));
    }

    private static void labels(PotLabels x, String want) {
        for (int pot = 0; pot < 8; pot++) {
            Check.equal("label of the pot " + pot, want.charAt(pot) - '0', x.potOf(pot, 3));
        }
    }

    private static void labelAllGivesTheLeast() {
        PotLabels x = new PotLabels();
        Check.pots(x, "0=000;1=004;2=008;3=000;4=004;5=008;6=002;7=006");
        x.label(0, 5);
        x.label(7, 0);
        Check.undoable(x, "labelAll(0)", () -> x.labelAll(0));
        Check.equal("labelAll(0)", 3, x.labelAll(0));
        labels(x, "01201201");
        Check.equal("the labels are right", 1, x.painterOf(0, 5));
        Check.equal("labelAll(2), who sees no blue", 1, x.labelAll(2));
        labels(x, "00000000");
    }

    private static void labelAllIsNotTheFewest() {
        PotLabels x = new PotLabels();
        Check.pots(x, "0=003;1=006;2=009;3=000;4=003;5=003;6=003;7=003");
        Check.equal("labelAll(0), pot after pot", 3, x.labelAll(0));
        labels(x, "00120000");
        Check.equal("the fewest are fewer", 2, x.fewest(0, 0));
    }

    private static void labelAllForAll() {
        PotLabels x = new PotLabels();
        Check.pots(x, "0=000;1=900;2=090;3=009;4=990;5=909;6=099;7=999");
        Check.equal("labelAll(0) of all unlike", 8, x.labelAll(0));
        labels(x, "01234567");
    }

    private static void labelAllRefuses() {
        PotLabels x = new PotLabels();
        x.label(0, 6);
        Check.noPot(x, "labelAll(-1)", () -> x.labelAll(-1));
        Check.noPot(x, "labelAll(4)", () -> x.labelAll(4));
    }

    /** Six charts, of the pots 0 to 5 on the pot 7, and one saved state. */
    private static PotLabels sixCharts() {
        PotLabels x = new PotLabels();
        for (int chart = 0; chart < 6; chart++) {
            Check.equal("hang", chart, x.hang(chart, 7));
            Check.equal("charts", chart + 1, x.count(2));
        }
        x.keep(0);
        for (int chart = 5; chart >= 0; chart--) {
            x.undo();
            Check.equal("charts behind undo", chart, x.count(2));
        }
        x.goBack(0);
        return x;
    }

    private static void hangUpToSix() {
        PotLabels x = sixCharts();
        Check.equal("hang refused", -1, x.hang(0, 1));
        Check.equal("what was refused", 1, x.count(6));
        Check.equal("charts stay", 6, x.count(2));
        for (int chart = 0; chart < 6; chart++) {
            Check.equal("the figure stays", chart, x.chartOf(chart, 0));
            Check.equal("the ground stays", 7, x.chartOf(chart, 1));
        }
        Check.undoable(x, "hang that is refused", () -> x.hang(0, 1));
        Check.equal("refused twice", 2, x.count(6));
        PotLabels y = new PotLabels();
        Check.undoable(y, "hang(0, 1)", () -> y.hang(0, 1));
        Check.equal("the same chart again", 1, y.hang(0, 1));
        Check.equal("the other way round", 2, y.hang(1, 0));
        Check.equal("nothing is refused", 0, y.count(6));
    }

    private static void hangRefuses() {
        PotLabels x = new PotLabels();
        Check.noPot(x, "hang(-1, 0)", () -> x.hang(-1, 0));
        Check.noPot(x, "hang(8, 0)", () -> x.hang(8, 0));
        Check.noPot(x, "hang(0, -1)", () -> x.hang(0, -1));
        Check.noPot(x, "hang(0, 8)", () -> x.hang(0, 8));
        Check.noPot(x, "hang(8, 8)", () -> x.hang(8, 8));
        Check.noArgument(x, "hang(0, 0)", () -> x.hang(0, 0));
        Check.noArgument(x, "hang(7, 7)", () -> x.hang(7, 7));
        for (int chart = 0; chart < 6; chart++) {
            x.hang(0, 1);
        }
        Check.noArgument(x, "hang(7, 7) with 6 charts", () -> x.hang(7, 7));
        Check.noPot(x, "hang(7, 8) with 6 charts", () -> x.hang(7, 8));
    }

    private static void takeDownMovesThoseBehind() {
        PotLabels x = new PotLabels();
        x.mix(0, 2, 4);
        x.mix(1, 0, 9);
        x.hang(0, 7);
        x.hang(1, 5);
        x.hang(6, 4);
        Check.undoable(x, "takeDown(2)", () -> x.takeDown(2));
        x.undo();
        Check.equal("blue is read by the painters 0 and 1", 2, x.takeDown(0));
        Check.equal("charts", 2, x.count(2));
        Check.equal("figure behind it", 1, x.chartOf(0, 0));
        Check.equal("ground behind it", 5, x.chartOf(0, 1));
        Check.equal("figure of the last", 6, x.chartOf(1, 0));
        Check.equal("ground of the last", 4, x.chartOf(1, 1));
        Check.noPot(x, "chartOf(2, 0)", () -> x.chartOf(2, 0));
        Check.equal("no one reads black on black", 0, x.takeDown(1));
        Check.equal("all four read red", 4, x.takeDown(0));
        Check.equal("no charts", 0, x.count(2));
        x.undo();
        x.undo();
        x.undo();
        Check.equal("three again", 3, x.count(2));
        Check.equal("the first one again", 0, x.chartOf(0, 0));
        Check.equal("the last one again", 6, x.chartOf(2, 0));
        Check.equal("its ground again", 4, x.chartOf(2, 1));
    }

    private static void takeDownRefuses() {
        PotLabels x = new PotLabels();
        Check.noPot(x, "takeDown(0) without charts", () -> x.takeDown(0));
        x.hang(0, 1);
        Check.noPot(x, "takeDown(-1)", () -> x.takeDown(-1));
        Check.noPot(x, "takeDown(1)", () -> x.takeDown(1));
        Check.noPot(x, "takeDown(6)", () -> x.takeDown(6));
    }

    private static void correctTakesTheNearest() {
        PotLabels x = new PotLabels();
        x.hang(3, 5);
        x.label(3, 2);
        Check.undoable(x, "correct(0, 0)", () -> x.correct(0, 0));
        Check.equal("the blue is changed by 4", 4, Check.colour(x, 3));
        Check.equal("the ground stays", 0, Check.colour(x, 5));
        Check.equal("the label stays", 2, x.potOf(3, 3));
        Check.equal("corrections", 1, x.count(5));
        int saved = x.count(7);
        Check.equal("read now", 0, x.correct(0, 0));
        Check.equal("no colour was changed", 1, x.count(5));
        Check.equal("nothing was refused", 0, x.count(6));
        Check.equal("it saves all the same", saved + 1, x.count(7));
        Check.equal("for the painter 2", 4, x.correct(0, 2));
        Check.equal("the green is changed", 44, Check.colour(x, 3));
        Check.equal("corrections then", 2, x.count(5));
    }

    private static int corrected(String figure, String ground, int painter, int sharpness) {
        PotLabels x = new PotLabels();
        Check.pots(x, "0=" + figure + ";1=" + ground);
        x.painter(painter, 1, sharpness);
        x.hang(0, 1);
        int change = x.correct(0, painter);
        return 1000 * change + Check.colour(x, 0);
    }

    private static void correctBreaksTies() {
        Check.equal("the least red", 4155, corrected("555", "555", 0, 3));
        Check.equal("then the least green", 4035, corrected("255", "255", 0, 3));
        Check.equal("then the least blue", 4002, corrected("015", "015", 0, 3));
        Check.equal("away from the ground", 1009, corrected("008", "005", 0, 3));
        Check.equal("one of each", 3999, corrected("888", "333", 0, 17));
        Check.equal("the farthest", 15000, corrected("555", "555", 0, 14));
        Check.equal("to the other side", 9999, corrected("990", "000", 0, 26));
        Check.equal("as far as can be", 27999, corrected("000", "000", 0, 26));
        Check.equal("no red is more than 9", 900 - 1000, corrected("900", "099", 0, 27));
        Check.equal("sharpness 0", 1454, corrected("554", "554", 0, 0));
    }

    private static void correctByOtherEyes() {
        Check.equal("the kind 3 sees thirds", 6006, corrected("000", "000", 3, 3));
        Check.equal("the kind 2 sees no blue", 4040, corrected("000", "000", 2, 3));
        Check.equal("the kind 1 sees blue", 4004, corrected("000", "000", 1, 3));
        Check.equal("the kind 1 sees halves", 10028, corrected("000", "000", 1, 9));
        PotLabels x = new PotLabels();
        x.hang(0, 1);
        x.borrow(2, 0);
        Check.equal("by borrowed eyes", 4, x.correct(0, 2));
        Check.equal("these see blue", 4, Check.colour(x, 0));
    }

    private static void correctThatCannotBe() {
        PotLabels x = new PotLabels();
        x.hang(0, 1);
        x.painter(2, 1, 18);
        Check.equal("no colour is so far apart", -1, x.correct(0, 2));
        Check.equal("refused", 1, x.count(6));
        Check.equal("not corrected", 0, x.count(5));
        Check.equal("the colour stays", 0, Check.colour(x, 0));
        Check.undoable(x, "correct that is refused", () -> x.correct(0, 2));
        Check.equal("refused twice", 2, x.count(6));
        x.painter(2, 1, 17);
        Check.equal("18 is farther than 17", 18, x.correct(0, 2));
        Check.equal("yellow", 990, Check.colour(x, 0));
        Check.equal("nothing farther than 15 from 555", 555 - 1000, corrected("555", "555", 0, 15));
    }

    private static void correctRefuses() {
        PotLabels x = new PotLabels();
        Check.noPot(x, "correct(0, 0) without charts", () -> x.correct(0, 0));
        x.hang(0, 1);
        Check.noPot(x, "correct(-1, 0)", () -> x.correct(-1, 0));
        Check.noPot(x, "correct(1, 0)", () -> x.correct(1, 0));
        Check.noPot(x, "correct(0, -1)", () -> x.correct(0, -1));
        Check.noPot(x, "correct(0, 4)", () -> x.correct(0, 4));
    }
}
