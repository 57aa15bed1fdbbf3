/** A test for each sentence of the promises 5 to 9: label, labelAll, hang, takeDown, correct. */
final class LabelsEdges {
    private LabelsEdges() {
    }

    static void all() {
        label();
        labelAll();
        hang();
        takeDown();
        correct();
    }

    // ---- promise 5

    private static void label() {
        Sentences.test(5, "Puts a label on a pot", () -> {
            PotLabels x = Edge.pots("0=123;7=321");
            x.label(0, 7);
            Edge.labels(x, "7-------");
            x.label(7, 0);
            Edge.labels(x, "7------0");
            x.label(0, 0);
            Edge.labels(x, "0------0");
            Edge.colours(x, "123 000 000 000 000 000 000 321");
        });
        Sentences.test(5, "Undoable", () -> {
            Edge.undoable("a label", x -> { }, x -> x.label(0, 0));
            Edge.undoable("another label", x -> x.label(7, 7), x -> x.label(7, 0));
            Edge.undoable("the same label", x -> x.label(7, 7), x -> x.label(7, 7));
            Edge.undoable("no label any more", x -> x.label(7, 7), x -> x.label(7, -1));
            Edge.undoable("no label as before", x -> { }, x -> x.label(7, -1));
        });
        Sentences.test(5, "`pot`: 0 to 7", () -> {
            Edge.takes("label of the pot", 0, 7, (x, pot) -> x.label(pot, 0));
            PotLabels x = new PotLabels();
            for (int pot = 0; pot < 8; pot++) {
                x.label(pot, 7 - pot);
            }
            Edge.labels(x, "76543210");
        });
        Sentences.test(5, "`label`: -1 to 7; -1: none", () -> {
            for (int label = -1; label <= 7; label++) {
                PotLabels x = new PotLabels();
                x.label(3, 4);
                x.label(3, label);
                Check.equal("the label", label, x.potOf(3, 3));
                Check.equal("pots with labels", label < 0 ? 0 : 1, x.count(0));
            }
        });
        Sentences.test(5, "Returns the label before; NONE if there was none", () -> {
            PotLabels x = new PotLabels();
            Check.equal("none at first", -1, x.label(7, 0));
            Check.equal("the label 0", 0, x.label(7, 7));
            Check.equal("the label 7", 7, x.label(7, 7));
            Check.equal("the label 7, the same", 7, x.label(7, -1));
            Check.equal("none any more", -1, x.label(7, -1));
            Check.equal("none still", -1, x.label(7, 1));
        });
        Sentences.test(5, "Throws `IndexOutOfBoundsException` if there is no such pot", () -> {
            Edge.refusesOutside("label of the pot", Edge.NO_SUCH, 0, 7, (x, pot) -> x.label(pot, 0));
            Edge.refusesOutside("wrong label of the pot", Edge.NO_SUCH, 0, 7, (x, pot) -> x.label(pot, 8));
        });
        Sentences.test(5, "Throws `IllegalArgumentException` if label is out of range",
                () -> Edge.refusesOutside("the label", Edge.WRONG, -1, 7, (x, label) -> x.label(7, label)));
    }

    // ---- promise 6

    private static void labelAll() {
        Sentences.test(6, "Labels all pots for a painter", () -> {
            PotLabels x = new PotLabels();
            x.labelAll(0);
            Edge.labels(x, "00000000");
            Check.pots(x, Edge.UNLIKE);
            x.label(0, 7);
            x.label(7, 0);
            x.labelAll(0);
            Edge.labels(x, "01234567");
            Check.equal("the labels are right", 1, x.painterOf(0, 5));
            Edge.colours(x, "000 900 090 009 990 909 099 999");
        });
        Sentences.test(6, "Undoable", () -> {
            Edge.undoable("labelAll", x -> { }, x -> x.labelAll(0));
            Edge.undoable("labelAll over labels", x -> x.label(7, 7), x -> x.labelAll(3));
            Edge.undoable("labelAll once more", x -> x.labelAll(3), x -> x.labelAll(3));
            PotLabels x = Edge.pots(Edge.UNLIKE);
            x.label(0, 7);
            x.labelAll(0);
            x.undo();
            Edge.labels(x, "7-------");
        });
        Sentences.test(6, "`painter`: 0 to 3", () -> {
            String[] want = {"01234567", "01123445", "01203123", "01112223"};
            for (int painter = 0; painter < 4; painter++) {
                PotLabels x = Edge.pots(Edge.UNLIKE);
                x.labelAll(painter);
                Edge.labels(x, want[painter]);
            }
        });
        Sentences.test(6, "Returns how many unlike labels are used", () -> {
            int[] want = {8, 6, 4, 4};
            for (int painter = 0; painter < 4; painter++) {
                Check.equal("of the painter " + painter, want[painter], Edge.pots(Edge.UNLIKE).labelAll(painter));
                Check.equal("of black pots", 1, new PotLabels().labelAll(painter));
            }
            PotLabels x = Edge.pots("7=900");
            x.label(0, 5);
            Check.equal("labels of before are used no more", 2, x.labelAll(0));
        });
        Sentences.test(6, "Throws `IndexOutOfBoundsException` if there is no such painter", () ->
                Edge.refusesOutside("labelAll", Edge.NO_SUCH, 0, 3, (x, painter) -> x.labelAll(painter)));
    }

    // ---- promise 7

    private static void hang() {
        Sentences.test(7, "Hangs a chart up", () -> {
            PotLabels x = new PotLabels();
            x.hang(0, 7);
            x.hang(7, 0);
            x.hang(0, 7);
            Edge.charts(x, "07 70 07");
            Check.equal("charts", 3, x.count(2));
        });
        Sentences.test(7, "Undoable, also if it is refused", () -> {
            Edge.undoable("the first chart", x -> { }, x -> x.hang(0, 7));
            Edge.undoable("another chart", x -> x.hang(0, 7), x -> x.hang(0, 7));
            Edge.undoable("a chart that is refused", Edge::sixCharts, x -> x.hang(7, 0));
            PotLabels x = Edge.made(Edge::sixCharts);
            x.hang(7, 0);
            x.hang(7, 0);
            x.undo();
            Check.equal("what was refused", 1, x.count(6));
            x.undo();
            Check.equal("nothing was refused", 0, x.count(6));
        });
        Sentences.test(7, "`figure`: a pot", () -> {
            for (int figure = 0; figure < 8; figure++) {
                PotLabels x = new PotLabels();
                x.hang(figure, (figure + 1) % 8);
                Check.equal("the figure", figure, x.chartOf(0, 0));
            }
        });
        Sentences.test(7, "`ground`: another pot", () -> {
            for (int figure = 0; figure < 8; figure++) {
                for (int step = 1; step < 8; step++) {
                    PotLabels x = new PotLabels();
                    x.hang(figure, (figure + step) % 8);
                    Check.equal("the ground", (figure + step) % 8, x.chartOf(0, 1));
                }
            }
        });
        Sentences.test(7, "Returns its number; NONE if it is refused, as there are 6", LabelsEdges::hangReturns);
        Sentences.test(7, "Throws `IndexOutOfBoundsException` if there is no such pot", () -> {
            Edge.refusesOutside("the figure", Edge.NO_SUCH, 0, 7, (x, figure) -> x.hang(figure, 0));
            Edge.refusesOutside("the ground", Edge.NO_SUCH, 0, 7, (x, ground) -> x.hang(7, ground));
            Edge.refusesOutside("both", Edge.NO_SUCH, 0, 7, (x, both) -> x.hang(both, both));
            Edge.refusesOutside("the figure of a chart 7", Edge.NO_SUCH, 0, 7, Edge::sixCharts,
                    (x, figure) -> x.hang(figure, 0));
        });
        Sentences.test(7, "Throws `IllegalArgumentException` if both are the same", () -> {
            for (int pot = 0; pot < 8; pot++) {
                int both = pot;
                Edge.refuses("both are " + pot, Edge.WRONG, Edge::busy, x -> x.hang(both, both));
                Edge.refuses("both are " + pot + " with six charts", Edge.WRONG, Edge::sixCharts,
                        x -> x.hang(both, both));
            }
        });
    }

    private static void hangReturns() {
        PotLabels x = new PotLabels();
        for (int chart = 0; chart < 6; chart++) {
            Check.equal("the number", chart, x.hang(chart, 7));
        }
        Check.equal("refused", -1, x.hang(6, 7));
        Check.equal("refused again", -1, x.hang(0, 7));
        Check.equal("what was refused", 2, x.count(6));
        Edge.charts(x, "07 17 27 37 47 57");
        x.takeDown(0);
        Check.equal("the last number again", 5, x.hang(6, 7));
        Edge.charts(x, "17 27 37 47 57 67");
        Check.equal("nothing more was refused", 2, x.count(6));
    }

    // ---- promise 8

    private static void takeDown() {
        Sentences.test(8, "Takes a chart down", () -> {
            String[] want = {"17 27 37 47 57", "07 27 37 47 57", "07 17 37 47 57", "07 17 27 47 57", "07 17 27 37 57",
                "07 17 27 37 47"};
            for (int chart = 0; chart < 6; chart++) {
                PotLabels x = Edge.made(Edge::sixCharts);
                x.takeDown(chart);
                Edge.charts(x, want[chart]);
                Check.equal("charts", 5, x.count(2));
            }
            takesFigureAndGroundDown();
            PotLabels x = new PotLabels();
            x.hang(0, 7);
            x.takeDown(0);
            Check.equal("no charts", 0, x.count(2));
            Check.equal("nothing is refused", 0, x.count(6));
        });
        Sentences.test(8, "Undoable", () -> {
            Edge.undoable("the only chart", x -> x.hang(0, 7), x -> x.takeDown(0));
            Edge.undoable("the first of six", Edge::sixCharts, x -> x.takeDown(0));
            Edge.undoable("the last of six", Edge::sixCharts, x -> x.takeDown(5));
            PotLabels x = Edge.made(Edge::sixCharts);
            x.takeDown(2);
            x.undo();
            Edge.charts(x, "07 17 27 37 47 57");
        });
        Sentences.test(8, "`chart`: its number", () -> {
            for (int chart = 0; chart < 6; chart++) {
                PotLabels x = Edge.made(Edge::sixCharts);
                x.mix(chart, 0, 9);
                Check.equal("readers of the chart " + chart, 4, x.takeDown(chart));
                Check.equal("nobody reads those left", 0, x.painterOf(0, 6));
            }
        });
        Sentences.test(8, "Returns how many painters read it", LabelsEdges::takeDownReturns);
        Sentences.test(8, "Throws `IndexOutOfBoundsException` if there is no such chart", () -> {
            Edge.refusesOutside("takeDown", Edge.NO_SUCH, 0, 1, (x, chart) -> x.takeDown(chart));
            Edge.refusesOutside("takeDown of six", Edge.NO_SUCH, 0, 5, Edge::sixCharts,
                    (x, chart) -> x.takeDown(chart));
            for (int chart = -1; chart <= 6; chart++) {
                int now = chart;
                Edge.refuses("without charts", Edge.NO_SUCH, x -> { }, x -> x.takeDown(now));
                Edge.refuses("with one taken down", Edge.NO_SUCH, x -> {
                    x.hang(0, 1);
                    x.takeDown(0);
                }, x -> x.takeDown(now));
            }
        });
    }

    private static void takesFigureAndGroundDown() {
        PotLabels x = new PotLabels();
        x.hang(0, 1);
        x.hang(2, 3);
        x.hang(4, 5);
        x.hang(6, 7);
        x.takeDown(1);
        Edge.charts(x, "01 45 67");
        x.takeDown(0);
        Edge.charts(x, "45 67");
        x.takeDown(1);
        Edge.charts(x, "45");
    }

    private static void takeDownReturns() {
        // Of these the painters tell from black: all, all but the painter 3, the painters 0 and 1, nobody.
        PotLabels x = Edge.pots("0=900;1=040;2=004;3=003;4=030;5=001");
        for (int figure = 0; figure < 4; figure++) {
            x.hang(figure, 7);
        }
        x.hang(4, 5);
        Check.equal("the painter 0 alone reads 030 on 001", 1, x.takeDown(4));
        Check.equal("nobody", 0, x.takeDown(3));
        Check.equal("two", 2, x.takeDown(2));
        Check.equal("three", 3, x.takeDown(1));
        Check.equal("four", 4, x.takeDown(0));
    }

    // ---- promise 9

    private static void correct() {
        Sentences.test(9, "Corrects the figure of a chart, so that a painter reads it: the pot of the figure gets the "
                + "nearest colour with which this is so: that which differs from its own one by the least (red, green "
                + "and blue together, each without its sign), of several that with the least red, of these that with "
                + "the least green, of these that with the least blue", LabelsEdges::correctsToTheNearest);
        Sentences.test(9, "Undoable, also if it is refused", () -> {
            Edge.undoable("correct", x -> x.hang(0, 7), x -> x.correct(0, 3));
            Edge.undoable("correct of what is read", x -> {
                x.mix(0, 0, 9);
                x.hang(0, 7);
            }, x -> x.correct(0, 0));
            Edge.On blind = x -> {
                x.hang(0, 7);
                x.painter(2, 1, 18);
            };
            Edge.undoable("correct that is refused", blind, x -> x.correct(0, 2));
            PotLabels x = Edge.made(blind);
            x.correct(0, 2);
            x.correct(0, 0);
            Check.equal("corrections", 1, x.count(5));
            x.undo();
            Check.equal("no correction", 0, x.count(5));
            Check.equal("what was refused", 1, x.count(6));
            x.undo();
            Check.equal("nothing was refused", 0, x.count(6));
            Edge.colours(x, "000 000 000 000 000 000 000 000");
        });
        Sentences.test(9, "`chart`: its number", () -> {
            for (int chart = 0; chart < 6; chart++) {
                PotLabels x = Edge.made(Edge::sixCharts);
                Check.equal("the chart " + chart, 4, x.correct(chart, 0));
                for (int pot = 0; pot < 8; pot++) {
                    Check.equal("the pot " + pot, pot == chart ? 4 : 0, Check.colour(x, pot));
                }
            }
        });
        Sentences.test(9, "`painter`: 0 to 3", () -> {
            int[] changes = {4, 4, 4, 6};
            int[] colours = {4, 4, 40, 6};
            for (int painter = 0; painter < 4; painter++) {
                PotLabels x = Edge.made(y -> y.hang(7, 0));
                Check.equal("for the painter " + painter, changes[painter], x.correct(0, painter));
                Check.equal("the colour", colours[painter], Check.colour(x, 7));
                Check.equal("it is read", 1, x.painterOf(painter, 6));
            }
        });
        Sentences.test(9, "Returns by how much it is changed, 0 if the painter reads it now; NONE if it is refused, as "
                + "there is no such colour", LabelsEdges::correctReturns);
        Sentences.test(9, "Throws `IndexOutOfBoundsException` if there is no such chart or painter", () -> {
            Edge.refusesOutside("the chart", Edge.NO_SUCH, 0, 1, (x, chart) -> x.correct(chart, 0));
            Edge.refusesOutside("the chart of six", Edge.NO_SUCH, 0, 5, Edge::sixCharts,
                    (x, chart) -> x.correct(chart, 0));
            Edge.refusesOutside("the painter", Edge.NO_SUCH, 0, 3, (x, painter) -> x.correct(1, painter));
            Edge.refusesOutside("both", Edge.NO_SUCH, 0, 3, (x, both) -> x.correct(both, both));
            Edge.refuses("without charts", Edge.NO_SUCH, x -> { }, x -> x.correct(0, 0));
        });
    }

    /** 1000 times the change, and the colour of the figure behind it. */
    private static int corrected(String figure, String ground, int kind, int sharpness) {
        PotLabels x = Edge.pots("3=" + figure + ";6=" + ground);
        x.painter(1, 0, kind);
        x.painter(1, 1, sharpness);
        x.label(3, 7);
        x.hang(3, 6);
        int change = x.correct(0, 1);
        Edge.labels(x, "---7----");
        Check.equal("the ground stays", Integer.parseInt(ground), Check.colour(x, 6));
        Check.equal("the painter reads it", change < 0 ? 0 : 1, x.apart(1, 3, 6));
        return 1000 * change + Check.colour(x, 3);
    }

    private static void correctsToTheNearest() {
        Check.equal("the least red", 4155, corrected("555", "555", 0, 3));
        Check.equal("the red can not be less: the least green", 4015, corrected("055", "055", 0, 3));
        Check.equal("then the least blue", 4001, corrected("005", "005", 0, 3));
        Check.equal("then more blue", 4004, corrected("000", "000", 0, 3));
        Check.equal("less of a red that is less already", 1105, corrected("205", "505", 0, 3));
        Check.equal("more of a blue that is more already", 1009, corrected("008", "005", 0, 3));
        Check.equal("more blue rather than more green", 1987, corrected("986", "555", 0, 8));
        Check.equal("the least red, and then the least green", 12069, corrected("999", "999", 0, 11));
        Check.equal("farther to the side where it is", 3159, corrected("459", "659", 0, 4));
        Check.equal("halves", 4005, corrected("009", "009", 1, 3));
        Check.equal("halves of an odd sum", 1088, corrected("078", "068", 1, 1));
        Check.equal("no blue is seen", 4159, corrected("559", "559", 2, 3));
        Check.equal("thirds", 4509, corrected("909", "909", 3, 3));
        everyTieOfAnExample();
    }

    /** The first of all colours in the order of red, green, blue, among those of the least change. */
    private static void everyTieOfAnExample() {
        int[] figure = {4, 8, 2};
        for (int kind = 0; kind < 4; kind++) {
            for (int sharpness = 0; sharpness <= 27; sharpness++) {
                int least = 28;
                int nearest = 482;
                for (int colour = 0; colour < 1000; colour++) {
                    int change = Math.abs(colour / 100 - figure[0]) + Math.abs(colour / 10 % 10 - figure[1])
                            + Math.abs(colour % 10 - figure[2]);
                    if (change < least && seenApart(kind, colour, 573) > sharpness) {
                        least = change;
                        nearest = colour;
                    }
                }
                int want = least > 27 ? nearest - 1000 : 1000 * least + nearest;
                Check.equal("482 on 573 by the kind " + kind + " with the sharpness " + sharpness, want,
                        corrected("482", "573", kind, sharpness));
            }
        }
    }

    private static int seenApart(int kind, int one, int two) {
        int sum = 0;
        for (int part = 0; part < 3; part++) {
            sum += Math.abs(seen(kind, one, part) - seen(kind, two, part));
        }
        return sum;
    }

    private static int seen(int kind, int colour, int part) {
        int[] parts = {colour / 100, colour / 10 % 10, colour % 10};
        if (kind == 1 && part < 2) {
            return (parts[0] + parts[1]) / 2;
        }
        if (kind == 3) {
            return (parts[0] + parts[1] + parts[2]) / 3;
        }
        return kind == 2 && part == 2 ? 0 : parts[part];
    }

    private static void correctReturns() {
        Check.equal("read now, by 1 more than the sharpness", 4, corrected("004", "000", 0, 3));
        Check.equal("the least change", 1004, corrected("003", "000", 0, 3));
        Check.equal("the most that can be", 27999, corrected("000", "000", 0, 26));
        Check.equal("no such colour", -1000, corrected("000", "000", 0, 27));
        Check.equal("the most from the middle", 15000, corrected("555", "555", 0, 14));
        Check.equal("no such colour from the middle", 555 - 1000, corrected("555", "555", 0, 15));
        Check.equal("no red is more than 9", 900 - 1000, corrected("900", "099", 0, 27));
        Check.equal("no blue is less than 0", 990 - 1000, corrected("990", "009", 0, 27));
        Check.equal("the most without blue", 18990, corrected("000", "000", 2, 17));
        Check.equal("no such colour without blue", -1000, corrected("000", "000", 2, 18));
        PotLabels x = Edge.pots("0=004");
        x.hang(0, 7);
        Check.equal("read now", 0, x.correct(0, 0));
        Check.equal("it is no correction", 0, x.count(5));
        Check.equal("it is not refused", 0, x.count(6));
        x.painter(0, 1, 27);
        Check.equal("refused", -1, x.correct(0, 0));
        Check.equal("refused again", -1, x.correct(0, 0));
        Check.equal("what was refused", 2, x.count(6));
        Check.equal("no correction still", 0, x.count(5));
    }
}
