/** A test for each sentence of the promises 17 to 22: potOf, seen, painterOf, apart, chartOf, count. */
final class LooksEdges {
    private LooksEdges() {
    }

    static void all() {
        potOf();
        seen();
        painterOf();
        apart();
        chartOf();
        count();
    }

    // ---- promise 17

    private static void potOf() {
        Sentences.test(17, "Returns something of a pot", () -> {
            PotLabels x = Edge.pots("0=123;7=987");
            x.label(7, 0);
            int[] first = {1, 2, 3, -1, 15};
            int[] last = {9, 8, 7, 0, 15};
            for (int what = 0; what < 5; what++) {
                Check.equal("of the pot 0", first[what], x.potOf(0, what));
                Check.equal("of the pot 7", last[what], x.potOf(7, what));
            }
        });
        Sentences.test(17, "`pot`: 0 to 7", () -> {
            Edge.takes("potOf", 0, 7, (x, pot) -> x.potOf(pot, 4));
            PotLabels x = Edge.pots("0=800;1=700;2=600;3=500;4=400;5=300;6=200;7=100");
            for (int pot = 0; pot < 8; pot++) {
                Check.equal("the red", 8 - pot, x.potOf(pot, 0));
            }
        });
        Sentences.test(17, "`what`: 0: its red; 1: its green; 2: its blue; 3: its label, NONE without one; 4: the "
                + "painters who tell it apart from some other pot, as a mask with the bit p for the painter p",
                LooksEdges::potNumbers);
        Sentences.test(17, "Returns the number", () -> {
            for (int number = 0; number < 10; number++) {
                PotLabels x = Edge.pots("4=" + number + number + number);
                for (int what = 0; what < 3; what++) {
                    Check.equal("a part", number, x.potOf(4, what));
                }
                x.label(4, number % 8);
                Check.equal("the label", number % 8, x.potOf(4, 3));
            }
        });
        Sentences.test(17, "Throws `IndexOutOfBoundsException` if there is no such pot", () -> {
            Edge.refusesOutside("potOf", Edge.NO_SUCH, 0, 7, (x, pot) -> x.potOf(pot, 0));
            Edge.refusesOutside("potOf of what is not", Edge.NO_SUCH, 0, 7, (x, pot) -> x.potOf(pot, 5));
        });
        Sentences.test(17, "Throws `IllegalArgumentException` if what is not 0 to 4",
                () -> Edge.refusesOutside("what", Edge.WRONG, 0, 4, (x, what) -> x.potOf(7, what)));
    }

    private static void potNumbers() {
        PotLabels x = new PotLabels();
        Check.equal("the label of a pot without one", -1, x.potOf(0, 3));
        Check.equal("nobody tells black from black", 0, x.potOf(0, 4));
        for (int painter = 0; painter < 4; painter++) {
            PotLabels one = Edge.pots("3=900");
            for (int other = 0; other < 4; other++) {
                one.painter(other, 1, other == painter ? 3 : 27);
            }
            for (int pot = 0; pot < 8; pot++) {
                Check.equal("the painter " + painter + " alone", 1 << painter, one.potOf(pot, 4));
            }
        }
        PotLabels three = Edge.pots("0=003");
        Check.equal("3 is not farther than 3", 0, three.potOf(0, 4));
        three.mix(7, 0, 1);
        Check.equal("4 from the last pot is", 1, three.potOf(0, 4));
        Check.equal("and the last one from it", 1, three.potOf(7, 4));
        Check.equal("but no other pot", 0, three.potOf(3, 4));
        three.borrow(3, 0);
        Check.equal("by borrowed eyes too", 1 + 8, three.potOf(0, 4));
    }

    // ---- promise 18

    private static void seen() {
        Sentences.test(18, "Tells how a painter sees a pot, by the own eyes", () -> {
            PotLabels x = Edge.pots("0=725");
            for (int lender = 0; lender < 4; lender++) {
                x.borrow(2, lender);
                Check.equal("by the own eyes alone", 720, x.seen(2, 0));
            }
            x.painter(2, 1, 27);
            Check.equal("whatever the sharpness", 720, x.seen(2, 0));
            x.painter(2, 0, 0);
            Check.equal("by other eyes", 725, x.seen(2, 0));
        });
        Sentences.test(18, "`painter`: 0 to 3", () -> {
            Edge.takes("seen by the painter", 0, 3, (x, painter) -> x.seen(painter, 0));
            PotLabels x = Edge.pots("7=725");
            int[] want = {725, 445, 720, 444};
            for (int painter = 0; painter < 4; painter++) {
                Check.equal("seen by " + painter, want[painter], x.seen(painter, 7));
            }
        });
        Sentences.test(18, "`pot`: 0 to 7", () -> {
            Edge.takes("seen of the pot", 0, 7, (x, pot) -> x.seen(0, pot));
            PotLabels x = Edge.pots(Edge.UNLIKE);
            int[] want = {0, 900, 90, 9, 990, 909, 99, 999};
            for (int pot = 0; pot < 8; pot++) {
                Check.equal("the pot " + pot, want[pot], x.seen(0, pot));
            }
        });
        Sentences.test(18, "Returns 100 times the red, 10 times the green, and the blue, together, as seen", () -> {
            PotLabels x = Edge.pots("0=000;1=001;2=010;3=100;4=999");
            int[][] want = {{0, 1, 10, 100, 999}, {0, 1, 0, 0, 999}, {0, 0, 10, 100, 990}, {0, 0, 0, 0, 999}};
            for (int painter = 0; painter < 4; painter++) {
                for (int pot = 0; pot < 5; pot++) {
                    Check.equal("seen(" + painter + ", " + pot + ")", want[painter][pot], x.seen(painter, pot));
                }
            }
        });
        Sentences.test(18, "Throws `IndexOutOfBoundsException` if there is no such painter or pot", () -> {
            Edge.refusesOutside("the painter", Edge.NO_SUCH, 0, 3, (x, painter) -> x.seen(painter, 0));
            Edge.refusesOutside("the pot", Edge.NO_SUCH, 0, 7, (x, pot) -> x.seen(0, pot));
            Edge.refusesOutside("both", Edge.NO_SUCH, 0, 7, (x, both) -> x.seen(both, both));
        });
    }

    // ---- promise 19

    private static void painterOf() {
        Sentences.test(19, "Returns something of a painter", () -> {
            PotLabels x = new PotLabels();
            int[] want = {3, 3, -1, 0, 0, 1, 0};
            for (int what = 0; what < 7; what++) {
                Check.equal("painterOf(3, " + what + ")", want[what], x.painterOf(3, what));
            }
        });
        Sentences.test(19, "`painter`: 0 to 3", () -> {
            Edge.takes("painterOf", 0, 3, (x, painter) -> x.painterOf(painter, 6));
            PotLabels x = Edge.pots(Edge.UNLIKE);
            int[] pairs = {28, 26, 24, 22};
            for (int painter = 0; painter < 4; painter++) {
                Check.equal("the kind", painter, x.painterOf(painter, 0));
                Check.equal("pairs", pairs[painter], x.painterOf(painter, 3));
            }
        });
        Sentences.test(19, "`what`: 0: the kind of the eyes; 1: the sharpness; 2: from whom eyes are borrowed, NONE if "
                + "from nobody; 3: pairs of pots that the painter tells apart; 4: of these the ones with labels that "
                + "are alike; 5: 1 if the labels are right for the painter, otherwise 0; 6: charts that the painter "
                + "reads", LooksEdges::painterNumbers);
        Sentences.test(19, "Returns the number", LooksEdges::mostOfAPainter);
        Sentences.test(19, "Throws `IndexOutOfBoundsException` if there is no such painter", () -> {
            Edge.refusesOutside("painterOf", Edge.NO_SUCH, 0, 3, (x, painter) -> x.painterOf(painter, 0));
            Edge.refusesOutside("painterOf, wrong", Edge.NO_SUCH, 0, 3, (x, painter) -> x.painterOf(painter, 7));
        });
        Sentences.test(19, "Throws `IllegalArgumentException` if what is not 0 to 6",
                () -> Edge.refusesOutside("what", Edge.WRONG, 0, 6, (x, what) -> x.painterOf(3, what)));
    }

    private static void painterNumbers() {
        PotLabels x = Edge.pots("0=004;7=003");
        x.painter(1, 0, 0);
        x.painter(1, 1, 0);
        x.borrow(1, 0);
        Check.equal("the kind", 0, x.painterOf(1, 0));
        Check.equal("the sharpness", 0, x.painterOf(1, 1));
        Check.equal("borrowed from the painter 0", 0, x.painterOf(1, 2));
        Check.equal("pairs, with the sharpness 0", 13, x.painterOf(1, 3));
        Check.equal("pairs, with the sharpness 3", 6, x.painterOf(0, 3));
        Check.equal("no labels are alike, as there are none", 0, x.painterOf(1, 4));
        Check.equal("right without labels", 1, x.painterOf(1, 5));
        x.label(0, 0);
        x.label(1, 0);
        x.label(2, 0);
        Check.equal("two pairs", 2, x.painterOf(1, 4));
        Check.equal("black and black are not told apart", 0, x.painterOf(3, 4));
        Check.equal("not right", 0, x.painterOf(1, 5));
        Check.equal("right for the painter who tells none", 1, x.painterOf(3, 5));
        x.label(0, 1);
        Check.equal("no pair", 0, x.painterOf(1, 4));
        Check.equal("right", 1, x.painterOf(1, 5));
        Check.equal("no charts", 0, x.painterOf(1, 6));
        x.hang(0, 7);
        x.hang(7, 1);
        x.hang(1, 0);
        Check.equal("charts of the sharp painter", 3, x.painterOf(1, 6));
        Check.equal("charts of the painter 0", 1, x.painterOf(0, 6));
        Check.equal("charts of the painter 2", 0, x.painterOf(2, 6));
        x.borrow(1, 1);
        Check.equal("from nobody", -1, x.painterOf(1, 2));
    }

    private static void mostOfAPainter() {
        PotLabels x = Edge.pots(Edge.UNLIKE);
        for (int pot = 0; pot < 8; pot++) {
            x.label(pot, 7);
        }
        for (int figure = 0; figure < 6; figure++) {
            x.hang(figure, 7);
        }
        x.painter(0, 1, 8);
        x.borrow(0, 3);
        int[] want = {0, 8, 3, 28, 28, 0, 6};
        for (int what = 0; what < 7; what++) {
            Check.equal("painterOf(0, " + what + ")", want[what], x.painterOf(0, what));
        }
        x.painter(0, 1, 27);
        int[] least = {0, 27, 3, 0, 0, 1, 0};
        for (int what = 0; what < 7; what++) {
            Check.equal("painterOf(0, " + what + ") of one who tells nothing", least[what], x.painterOf(0, what));
        }
    }

    // ---- promise 20

    private static void apart() {
        Sentences.test(20, "Tells whether a painter tells two pots apart", () -> {
            PotLabels x = Edge.pots("0=003;7=004");
            Check.equal("3 is not farther than 3", 0, x.apart(0, 0, 1));
            Check.equal("4 is", 1, x.apart(0, 7, 1));
            Check.equal("1 is not", 0, x.apart(0, 0, 7));
            x.painter(0, 1, 0);
            Check.equal("1 is farther than 0", 1, x.apart(0, 0, 7));
            Check.equal("0 is not", 0, x.apart(0, 1, 2));
        });
        Sentences.test(20, "`painter`: 0 to 3", () -> {
            Edge.takes("apart by the painter", 0, 3, (x, painter) -> x.apart(painter, 0, 1));
            PotLabels x = Edge.pots("0=004;1=040;2=900;3=003");
            int[][] want = {{1, 1, 1, 0}, {1, 1, 1, 0}, {0, 1, 1, 0}, {0, 0, 1, 0}};
            for (int painter = 0; painter < 4; painter++) {
                for (int pot = 0; pot < 4; pot++) {
                    Check.equal("apart(" + painter + ", " + pot + ", 7)", want[painter][pot], x.apart(painter, pot, 7));
                }
            }
        });
        Sentences.test(20, "`pot`: 0 to 7", () -> {
            Edge.takes("apart of the pot", 0, 7, (x, pot) -> x.apart(0, pot, 1));
            PotLabels x = Edge.pots("0=004;1=000;2=040;3=000;4=400;5=000;6=004;7=001");
            int[] want = {1, 0, 1, 0, 1, 0, 1, 0};
            for (int pot = 0; pot < 8; pot++) {
                Check.equal("apart(0, " + pot + ", 1)", want[pot], x.apart(0, pot, 1));
            }
        });
        Sentences.test(20, "`other`: 0 to 7", () -> {
            Edge.takes("apart of the other", 0, 7, (x, other) -> x.apart(0, 1, other));
            for (int one = 0; one < 8; one++) {
                PotLabels x = Edge.pots(one + "=900");
                for (int pot = 0; pot < 8; pot++) {
                    for (int other = 0; other < 8; other++) {
                        boolean told = pot != other && (pot == one || other == one);
                        Check.equal("apart(3, " + pot + ", " + other + ")", told ? 1 : 0, x.apart(3, pot, other));
                    }
                }
            }
        });
        Sentences.test(20, "Returns 1 if so, otherwise 0 (also if both are the same)", () -> {
            PotLabels x = Edge.pots(Edge.UNLIKE);
            for (int painter = 0; painter < 4; painter++) {
                x.painter(painter, 1, 0);
                x.borrow(painter, (painter + 1) % 4);
                for (int pot = 0; pot < 8; pot++) {
                    Check.equal("both are the same", 0, x.apart(painter, pot, pot));
                    Check.equal("both are not", 1, x.apart(painter, pot, 7 - pot));
                }
            }
        });
        Sentences.test(20, "Throws `IndexOutOfBoundsException` if there is no such painter or pot", () -> {
            Edge.refusesOutside("the painter", Edge.NO_SUCH, 0, 3, (x, painter) -> x.apart(painter, 0, 1));
            Edge.refusesOutside("the pot", Edge.NO_SUCH, 0, 7, (x, pot) -> x.apart(0, pot, 1));
            Edge.refusesOutside("the other", Edge.NO_SUCH, 0, 7, (x, other) -> x.apart(3, 0, other));
            Edge.refusesOutside("both pots", Edge.NO_SUCH, 0, 7, (x, both) -> x.apart(0, both, both));
            Edge.refusesOutside("the painter, of one pot", Edge.NO_SUCH, 0, 3, (x, painter) -> x.apart(painter, 0, 0));
        });
    }

    // ---- promise 21

    private static void chartOf() {
        Sentences.test(21, "Returns something of a chart", () -> {
            PotLabels x = Edge.pots("7=900");
            x.hang(7, 0);
            Check.equal("the figure", 7, x.chartOf(0, 0));
            Check.equal("the ground", 0, x.chartOf(0, 1));
            Check.equal("the readers", 15, x.chartOf(0, 2));
        });
        Sentences.test(21, "`chart`: its number", () -> {
            PotLabels x = Edge.made(Edge::sixCharts);
            for (int chart = 0; chart < 6; chart++) {
                Check.equal("the figure", chart, x.chartOf(chart, 0));
                Check.equal("the ground", 7, x.chartOf(chart, 1));
            }
            x.takeDown(0);
            for (int chart = 0; chart < 5; chart++) {
                Check.equal("the figure behind takeDown", chart + 1, x.chartOf(chart, 0));
            }
            Check.throwing("the last number", Edge.NO_SUCH, () -> x.chartOf(5, 0));
        });
        Sentences.test(21, "`what`: 0: its figure; 1: its ground; 2: the painters who read it, as a mask", () -> {
            for (int readers = 0; readers < 16; readers++) {
                PotLabels x = Edge.pots("3=900");
                x.hang(2, 3);
                for (int painter = 0; painter < 4; painter++) {
                    x.painter(painter, 1, (readers >> painter & 1) == 1 ? 3 : 27);
                }
                Check.equal("the figure", 2, x.chartOf(0, 0));
                Check.equal("the ground", 3, x.chartOf(0, 1));
                Check.equal("the readers", readers, x.chartOf(0, 2));
            }
        });
        Sentences.test(21, "Returns the number", () -> {
            for (int figure = 0; figure < 8; figure++) {
                PotLabels x = new PotLabels();
                x.hang(figure, 7 - figure);
                Check.equal("the figure", figure, x.chartOf(0, 0));
                Check.equal("the ground", 7 - figure, x.chartOf(0, 1));
                Check.equal("no readers of black on black", 0, x.chartOf(0, 2));
            }
        });
        Sentences.test(21, "Throws `IndexOutOfBoundsException` if there is no such chart", () -> {
            Edge.refusesOutside("chartOf", Edge.NO_SUCH, 0, 1, (x, chart) -> x.chartOf(chart, 0));
            Edge.refusesOutside("chartOf, wrong", Edge.NO_SUCH, 0, 1, (x, chart) -> x.chartOf(chart, 3));
            Edge.refusesOutside("chartOf of six", Edge.NO_SUCH, 0, 5, Edge::sixCharts,
                    (x, chart) -> x.chartOf(chart, 2));
            Edge.refuses("without charts", Edge.NO_SUCH, x -> { }, x -> x.chartOf(0, 0));
            Edge.refuses("without charts, wrong", Edge.NO_SUCH, x -> { }, x -> x.chartOf(0, 3));
        });
        Sentences.test(21, "Throws `IllegalArgumentException` if what is not 0 to 2",
                () -> Edge.refusesOutside("what", Edge.WRONG, 0, 2, (x, what) -> x.chartOf(1, what)));
    }

    // ---- promise 22

    private static void count() {
        Sentences.test(22, "Returns a number", () -> {
            int[] want = {0, 0, 0, 28, 4, 0, 0, 0};
            for (int what = 0; what < 8; what++) {
                Check.equal("count(" + what + ") of a new object", want[what], new PotLabels().count(what));
            }
        });
        Sentences.test(22, "`what`: 0: pots with labels; 1: unlike labels; 2: charts; 3: pairs of pots that no painter "
                + "tells apart; 4: painters for whom the labels are right; 5: corrections so far (by which a colour "
                + "was changed); 6: what was refused so far; 7: saved states", LooksEdges::countNumbers);
        Sentences.test(22, "Returns the number", LooksEdges::mostOfACount);
        Sentences.test(22, "Throws `IllegalArgumentException` if what is not 0 to 7",
                () -> Edge.refusesOutside("what", Edge.WRONG, 0, 7, (x, what) -> x.count(what)));
    }

    private static void countNumbers() {
        PotLabels x = Edge.pots("7=900");
        x.label(0, 7);
        x.label(7, 7);
        Check.equal("pots with labels", 2, x.count(0));
        Check.equal("one label for both", 1, x.count(1));
        Check.equal("right for nobody", 0, x.count(4));
        x.label(7, 0);
        Check.equal("two labels", 2, x.count(1));
        Check.equal("right for all", 4, x.count(4));
        x.label(7, -1);
        Check.equal("none is no label", 1, x.count(1));
        Check.equal("pots that are black", 21, x.count(3));
        x.hang(0, 7);
        x.correct(0, 0);
        Check.equal("it was read: no correction", 0, x.count(5));
        x.hang(0, 1);
        x.correct(1, 0);
        Check.equal("a correction", 1, x.count(5));
        Check.equal("charts", 2, x.count(2));
        x.painter(0, 1, 27);
        x.correct(0, 0);
        Check.equal("a refused correction is none", 1, x.count(5));
        Check.equal("it is refused", 1, x.count(6));
        Check.equal("saved states", 6, x.count(7));
        x.undo();
        Check.equal("refused, undone", 0, x.count(6));
        Check.equal("saved states", 5, x.count(7));
        Check.throwing("an exception", Edge.NO_SUCH, () -> x.hang(8, 0));
        Check.equal("it is not refused", 0, x.count(6));
        pairsThatNobodyTells();
    }

    /** A pair counts as told if one painter tells it, and counts once if several do. */
    private static void pairsThatNobodyTells() {
        for (int painter = 0; painter < 4; painter++) {
            PotLabels x = Edge.pots("0=900;1=900");
            for (int other = 0; other < 4; other++) {
                x.painter(other, 0, 0);
                x.painter(other, 1, other == painter ? 26 : 27);
            }
            Check.equal("9 is not farther than 26", 28, x.count(3));
            x.painter(painter, 1, 8);
            Check.equal("the painter " + painter + " alone", 28 - 12, x.count(3));
            x.painter((painter + 1) % 4, 1, 8);
            Check.equal("another one as well", 28 - 12, x.count(3));
        }
    }

    private static void mostOfACount() {
        PotLabels x = Edge.pots(Edge.UNLIKE);
        for (int pot = 0; pot < 8; pot++) {
            x.label(pot, pot);
        }
        for (int figure = 0; figure < 7; figure++) {
            x.hang(figure, 7);
        }
        int[] want = {8, 8, 6, 0, 4, 0, 1, 6};
        for (int what = 0; what < 8; what++) {
            Check.equal("count(" + what + ")", want[what], x.count(what));
        }
        for (int i = 0; i < 5; i++) {
            x.mix(0, 0, 9);
            x.mix(0, 1, 9);
            x.mix(0, 2, 9);
            x.correct(0, 0);
            Check.equal("corrections", i + 1, x.count(5));
            x.hang(1, 2);
            Check.equal("what was refused", i + 2, x.count(6));
        }
    }
}
