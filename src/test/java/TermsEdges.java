/** A test for each sentence of the section "Terms" on pots, painters, labels, charts and texts. */
final class TermsEdges {
    private TermsEdges() {
    }

    static void all() {
        int terms = Sentences.TERMS;
        Sentences.test(terms, "All numbers are integers, but for a share; divisions are rounded down",
                TermsEdges::divisions);
        Sentences.test(terms, "There are 8 pots, numbered from 0, each with a red, a green and a blue, 0 to 9, at "
                + "first all 0; and a label, 0 to 7, or none, as at first", TermsEdges::pots);
        Sentences.test(terms, "There are 4 painters, numbered from 0, each with eyes of a kind, 0 to 3, at first the "
                + "number of the painter; a sharpness, 0 to 27, at first 3; and perhaps the eyes of another painter "
                + "as well, that are borrowed, at first of none", TermsEdges::painters);
        Sentences.test(terms, "With eyes of the kind 0 a colour is seen as it is; of the kind 1 its red and its green "
                + "are both seen as (red and green, together), divided by 2; of the kind 2 its blue is seen as 0; of "
                + "the kind 3 all three are seen as (red, green and blue, together), divided by 3", TermsEdges::kinds);
        Sentences.test(terms, "By eyes of a kind two pots are as far apart as the differences of the reds, the greens "
                + "and the blues, as these are seen, together", TermsEdges::distances);
        Sentences.test(terms, "A painter tells two pots apart, if by the own eyes, or by the borrowed ones (those of "
                + "the kind that the lender has, whatever the lender has borrowed), they are farther apart than the "
                + "painter's own sharpness", TermsEdges::tellsApart);
        Sentences.test(terms, "The labels are right for a painter, if any two pots with labels that the painter tells "
                + "apart have unlike labels", TermsEdges::rightLabels);
        Sentences.test(terms, "To label all pots for a painter is to give each pot, from the pot 0 on, the least label "
                + "that no pot ahead of it has which the painter tells apart from it", TermsEdges::leastLabels);
        Sentences.test(terms, "The fewest labels of a painter are the fewest with which all pots could be labelled, so "
                + "that they are right for this painter", TermsEdges::fewestLabels);
        Sentences.test(terms, "There are at most 6 charts, numbered from 0; when one is taken down, those behind it "
                + "get numbers that are 1 less", TermsEdges::sixCharts);
        Sentences.test(terms, "A chart has a figure of one pot on a ground of another one; a painter reads it, if the "
                + "painter tells both apart", TermsEdges::readCharts);
        Sentences.test(terms, "The buffer has at most 60 characters", TermsEdges::sixtyCharacters);
        Sentences.test(terms, "Pots as a text are one or more of these with \";\" between them: the digit of a pot, 0 "
                + "to 7, \"=\", and three digits: its red, its green and its blue", TermsEdges::potsAsText);
        Sentences.test(terms, "The buffer is read from left to right; a character is a syntax error if no pots as a "
                + "text, of any length, begin with the characters before it and this character",
                TermsEdges::syntaxErrors);
    }

    private static void divisions() {
        PotLabels x = Edge.pots("0=010;1=120;2=980;3=990;4=002;5=012;6=998;7=989");
        int[] halves = {0, 110, 880, 990, 2, 2, 998, 889};
        int[] thirds = {0, 111, 555, 666, 0, 111, 888, 888};
        for (int pot = 0; pot < 8; pot++) {
            Check.equal("halves of the pot " + pot, halves[pot], x.seen(1, pot));
            Check.equal("thirds of the pot " + pot, thirds[pot], x.seen(3, pot));
        }
        PotLabels one = Edge.pots("0=001");
        one.painter(0, 1, 0);
        Check.isTrue("a share is not rounded", one.apartShare() == 7 / 112.0);
    }

    private static void pots() {
        PotLabels x = new PotLabels();
        Edge.colours(x, "000 000 000 000 000 000 000 000");
        Edge.labels(x, "--------");
        for (int pot = 0; pot < 8; pot++) {
            for (int part = 0; part < 3; part++) {
                x.mix(pot, part, 9);
            }
            x.label(pot, 7 - pot);
        }
        Edge.colours(x, "999 999 999 999 999 999 999 999");
        Edge.labels(x, "76543210");
        Edge.refuses("a pot 8", Edge.NO_SUCH, Edge::busy, y -> y.potOf(8, 0));
        Edge.refuses("a pot -1", Edge.NO_SUCH, Edge::busy, y -> y.potOf(-1, 0));
        Edge.refuses("a red 10", Edge.WRONG, Edge::busy, y -> y.mix(0, 0, 10));
        Edge.refuses("a label 8", Edge.WRONG, Edge::busy, y -> y.label(0, 8));
    }

    private static void painters() {
        PotLabels x = new PotLabels();
        Edge.painters(x, "0/3/- 1/3/- 2/3/- 3/3/-");
        for (int painter = 0; painter < 4; painter++) {
            x.painter(painter, 0, 3 - painter);
            x.painter(painter, 1, painter < 2 ? 0 : 27);
            x.borrow(painter, 3 - painter);
        }
        Edge.painters(x, "3/0/3 2/0/2 1/27/1 0/27/0");
        Edge.refuses("a painter 4", Edge.NO_SUCH, Edge::busy, y -> y.painterOf(4, 0));
        Edge.refuses("a painter -1", Edge.NO_SUCH, Edge::busy, y -> y.painterOf(-1, 0));
        Edge.refuses("a kind 4", Edge.WRONG, Edge::busy, y -> y.painter(0, 0, 4));
        Edge.refuses("a sharpness 28", Edge.WRONG, Edge::busy, y -> y.painter(0, 1, 28));
    }

    /** All colours there are, a hundred by each object. */
    private static void kinds() {
        for (int red = 0; red < 10; red++) {
            for (int half = 0; half < 2; half++) {
                PotLabels x = new PotLabels();
                x.mix(5, 0, red);
                for (int green = 5 * half; green < 5 * half + 5; green++) {
                    x.mix(5, 1, green);
                    for (int blue = 0; blue < 10; blue++) {
                        x.mix(5, 2, blue);
                        eachKindSees(x, red, green, blue);
                    }
                }
            }
        }
    }

    private static void eachKindSees(PotLabels x, int red, int green, int blue) {
        String colour = "the colour " + red + green + blue + " by the kind ";
        int both = Math.floorDiv(red + green, 2);
        int all = Math.floorDiv(red + green + blue, 3);
        Check.equal(colour + 0, 100 * red + 10 * green + blue, x.seen(0, 5));
        Check.equal(colour + 1, 100 * both + 10 * both + blue, x.seen(1, 5));
        Check.equal(colour + 2, 100 * red + 10 * green, x.seen(2, 5));
        Check.equal(colour + 3, 100 * all + 10 * all + all, x.seen(3, 5));
    }

    /** The least sharpness with which the painter does not tell both pots apart is their distance. */
    private static int distance(String one, String two, int kind) {
        PotLabels x = Edge.pots("2=" + one + ";6=" + two);
        x.painter(1, 0, kind);
        int sharpness = 0;
        x.painter(1, 1, sharpness);
        while (sharpness < 28 && x.apart(1, 2, 6) == 1) {
            sharpness++;
            if (sharpness < 28) {
                x.painter(1, 1, sharpness);
            }
        }
        return sharpness;
    }

    private static void distances() {
        String[][] pairs = {{"000", "000"}, {"000", "999"}, {"900", "090"}, {"909", "090"}, {"009", "000"},
            {"010", "000"}, {"001", "000"}, {"111", "000"}, {"555", "464"}, {"405", "423"}, {"729", "183"}};
        int[][] want = {{0, 0, 0, 0}, {27, 27, 18, 27}, {18, 0, 18, 0}, {27, 9, 18, 9}, {9, 9, 0, 9},
            {1, 0, 1, 0}, {1, 1, 0, 0}, {3, 3, 2, 3}, {3, 1, 2, 3}, {4, 4, 2, 0}, {18, 6, 12, 6}};
        for (int i = 0; i < pairs.length; i++) {
            for (int kind = 0; kind < 4; kind++) {
                String name = pairs[i][0] + " and " + pairs[i][1] + " by the kind " + kind;
                Check.equal(name, want[i][kind], distance(pairs[i][0], pairs[i][1], kind));
                Check.equal(name + ", turned", want[i][kind], distance(pairs[i][1], pairs[i][0], kind));
            }
        }
    }

    private static void tellsApart() {
        PotLabels x = Edge.pots("0=004");
        Check.equal("4 is farther than 3", 1, x.apart(0, 0, 1));
        x.painter(0, 1, 4);
        Check.equal("4 is not farther than 4", 0, x.apart(0, 0, 1));
        Check.equal("the kind 2 sees no blue", 0, x.apart(2, 0, 1));
        x.borrow(2, 0);
        Check.equal("by the borrowed eyes, with the own sharpness 3", 1, x.apart(2, 0, 1));
        x.painter(2, 1, 4);
        Check.equal("4 is not farther than the own 4", 0, x.apart(2, 0, 1));
        x.painter(2, 1, 3);
        x.painter(0, 0, 2);
        Check.equal("the lender has eyes of the kind 2 now", 0, x.apart(2, 0, 1));
        x.borrow(0, 1);
        Check.equal("what the lender has borrowed does not help", 0, x.apart(2, 0, 1));
        x.painter(2, 0, 1);
        Check.equal("by the own eyes, whatever is borrowed", 1, x.apart(2, 0, 1));
        x.painter(0, 1, 0);
        Check.equal("with the sharpness 0 alike is alike", 0, x.apart(0, 1, 2));
        // Neither eyes tell more than 9 apart: what both see is not put together.
        PotLabels y = Edge.pots("0=909;1=090");
        y.painter(1, 1, 9);
        y.borrow(1, 3);
        Check.equal("9 by either eyes is not farther than 9", 0, y.apart(1, 0, 1));
        y.painter(1, 1, 8);
        Check.equal("9 is farther than 8", 1, y.apart(1, 0, 1));
    }

    private static void rightLabels() {
        PotLabels x = Edge.pots("0=900;1=090");
        Check.equal("right without labels", 1, x.painterOf(0, 5));
        x.label(0, 0);
        Check.equal("right with one label", 1, x.painterOf(0, 5));
        x.label(1, 0);
        Check.equal("wrong with two that are alike", 0, x.painterOf(0, 5));
        Check.equal("right for the painter who does not tell both apart", 1, x.painterOf(1, 5));
        x.label(1, 1);
        Check.equal("right with two that are unlike", 1, x.painterOf(0, 5));
        x.label(1, 0);
        x.label(0, -1);
        Check.equal("right when one is taken off", 1, x.painterOf(0, 5));
        PotLabels y = Edge.pots("6=900");
        y.label(6, 7);
        y.label(7, 7);
        Check.equal("wrong by the last pair, with the last label", 0, y.painterOf(0, 5));
        PotLabels z = new PotLabels();
        for (int pot = 0; pot < 8; pot++) {
            z.label(pot, 0);
        }
        Check.equal("right with all alike, as nothing is told apart", 1, z.painterOf(0, 5));
    }

    private static void leastLabels() {
        PotLabels x = Edge.pots(Edge.UNLIKE);
        x.labelAll(0);
        Edge.labels(x, "01234567");
        x.labelAll(1);
        Edge.labels(x, "01123445");
        x.labelAll(2);
        Edge.labels(x, "01203123");
        x.labelAll(3);
        Edge.labels(x, "01112223");
        // Blue 2 is told apart from 8 alone, blue 4 from 0 and 8: the pot 3 gets the label 0 once more.
        PotLabels y = Edge.pots("0=000;1=000;2=004;3=002;4=008;5=004;6=000;7=008");
        y.labelAll(0);
        Edge.labels(y, "00102102");
    }

    private static void fewestLabels() {
        // Labels that are put pot after pot are three here, where two are enough.
        PotLabels x = Edge.pots("0=003;1=006;2=009;3=000;4=003;5=003;6=003;7=003");
        Check.equal("pot after pot", 3, x.labelAll(0));
        Check.equal("the fewest", 2, x.fewest(0, 0));
        x.label(0, -1);
        Check.equal("labels that stand do not matter", 2, x.fewest(0, 0));
        int[] twoLabels = {0, 1, 1, 0, 0, 0, 0, 0};
        for (int pot = 0; pot < 8; pot++) {
            x.label(pot, twoLabels[pot]);
        }
        Check.equal("two labels are right", 1, x.painterOf(0, 5));
        for (int pot = 0; pot < 8; pot++) {
            x.label(pot, 0);
        }
        Check.equal("one is not", 0, x.painterOf(0, 5));
    }

    private static void sixCharts() {
        PotLabels x = Edge.made(Edge::sixCharts);
        Edge.charts(x, "07 17 27 37 47 57");
        Check.equal("no seventh", -1, x.hang(6, 7));
        Edge.charts(x, "07 17 27 37 47 57");
        x.takeDown(5);
        Edge.charts(x, "07 17 27 37 47");
        x.takeDown(0);
        Edge.charts(x, "17 27 37 47");
        x.takeDown(1);
        Edge.charts(x, "17 37 47");
        Check.equal("the next number", 3, x.hang(6, 5));
        Edge.charts(x, "17 37 47 65");
        for (int left = 3; left >= 0; left--) {
            x.takeDown(0);
            Check.equal("charts left", left, x.count(2));
        }
        Check.equal("numbered from 0", 0, x.hang(2, 1));
    }

    private static void readCharts() {
        PotLabels x = Edge.pots("0=004;1=030;2=001");
        x.hang(0, 7);
        x.hang(7, 0);
        x.hang(1, 2);
        x.hang(6, 7);
        Check.equal("blue 4 on black", 3, x.chartOf(0, 2));
        Check.equal("black on blue 4", 3, x.chartOf(1, 2));
        Check.equal("030 on 001", 1, x.chartOf(2, 2));
        Check.equal("black on black", 0, x.chartOf(3, 2));
        int[] read = {3, 2, 0, 0};
        for (int painter = 0; painter < 4; painter++) {
            Check.equal("charts of the painter " + painter, read[painter], x.painterOf(painter, 6));
        }
        x.painter(0, 1, 4);
        Check.equal("neither is farther apart than 4", 0, x.painterOf(0, 6));
    }

    private static void sixtyCharacters() {
        PotLabels x = new PotLabels();
        for (int length = 1; length <= 60; length++) {
            Check.equal("length", length, x.append('!'));
        }
        Edge.refuses("a character 61", Edge.NOT_NOW, Edge::fullBuffer, y -> y.append('!'));
        Check.equal("60 characters", 60, x.clearBuffer());
    }

    private static void loads(String text, String colours) {
        PotLabels x = new PotLabels();
        Check.type(x, text);
        x.load();
        Edge.colours(x, colours);
    }

    private static void doesNotLoad(String text) {
        Edge.refuses("load of \"" + text + "\"", Edge.WRONG, x -> Check.type(x, text), x -> x.load());
    }

    private static void potsAsText() {
        loads("0=123", "123 000 000 000 000 000 000 000");
        loads("7=999", "000 000 000 000 000 000 000 999");
        loads("6=000;6=908", "000 000 000 000 000 000 908 000");
        loads(Edge.TEN_POTS, "129 345 003 004 005 006 007 008");
        doesNotLoad("");
        doesNotLoad(";");
        doesNotLoad("8=123");
        doesNotLoad("0:123");
        doesNotLoad("0=12");
        doesNotLoad("0=1234");
        doesNotLoad("0=12a");
        doesNotLoad("0=123;");
        doesNotLoad(";0=123");
        doesNotLoad("0=123;;1=123");
        doesNotLoad("0=1231=123");
        doesNotLoad("0=123,1=123");
        doesNotLoad(Edge.TEN_POTS + ";");
    }

    private static void error(String text, int want) {
        PotLabels x = new PotLabels();
        Check.type(x, text);
        Check.equal("the first error of \"" + text + "\"", want, x.firstError());
    }

    private static void syntaxErrors() {
        error("", 0);
        error("8", 0);
        error("/", 0);
        error("x=123;y=123", 0);
        error("00", 1);
        error("0=/", 2);
        error("0=0:", 3);
        error("0=00;", 4);
        error("0=000:", 5);
        error("0=000;8", 6);
        error("0=000;7=999;;", 12);
        error(Edge.TEN_POTS, 59);
        // A text of any length: an eleventh pot could come behind the last place.
        error(Edge.TEN_POTS + ";", 60);
        error(Edge.TEN_POTS + "1", 59);
    }
}
