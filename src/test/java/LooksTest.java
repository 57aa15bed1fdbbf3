/** Promises 17 to 22: potOf, seen, painterOf, apart, chartOf, count. */
public final class LooksTest {
    public static void main(String[] args) {
        potOfNumbers();
        potOfRefuses();
        seenByEachKind();
        seenByOwnEyesAlone();
        seenRefuses();
        painterOfNumbers();
        labelsRightForPainters();
        painterOfRefuses();
        apartIsFartherThanSharpness();
        apartBySeenColours();
        apartRefuses();
        chartOfNumbers();
        chartOfRefuses();
        countNumbers();
        countRefuses();
        looksChangeNothing();
        Check.finish();
    }

    private static void potOfNumbers() {
        PotLabels x = new PotLabels();
        Check.pots(x, "0=004;1=720");
        x.label(1, 6);
        int[] want = {7, 2, 0, 6, 15};
        for (int what = 0; what < want.length; what++) {
            Check.equal("potOf(1, " + what + ")", want[what], x.potOf(1, what));
        }
        x.mix(1, 0, 0);
        x.mix(1, 1, 0);
        Check.equal("blue is told by the painters 0 and 1", 3, x.potOf(0, 4));
        Check.equal("so the black ones are", 3, x.potOf(7, 4));
        x.borrow(2, 1);
        Check.equal("and by the painter 2 with borrowed eyes", 7, x.potOf(0, 4));
        x.painter(0, 1, 4);
        Check.equal("not by the painter 0, less sharp", 6, x.potOf(0, 4));
        x.mix(0, 2, 0);
        Check.equal("all black", 0, x.potOf(0, 4));
        x.mix(7, 0, 9);
        Check.equal("but for the last one", 15, x.potOf(0, 4));
    }

    private static void potOfRefuses() {
        PotLabels x = new PotLabels();
        Check.noPot(x, "potOf(-1, 0)", () -> x.potOf(-1, 0));
        Check.noPot(x, "potOf(8, 0)", () -> x.potOf(8, 0));
        Check.noPot(x, "potOf(8, 5)", () -> x.potOf(8, 5));
        Check.noArgument(x, "potOf(0, -1)", () -> x.potOf(0, -1));
        Check.noArgument(x, "potOf(0, 5)", () -> x.potOf(0, 5));
    }

    private static void seenByEachKind() {
        PotLabels x = new PotLabels();
        Check.pots(x, "0=725;1=999;2=010;3=009;4=909");
        int[][] want = {{725, 999, 10, 9, 909}, {445, 999, 0, 9, 449}, {720, 990, 10, 0, 900},
            {444, 999, 0, 333, 666}};
        for (int kind = 0; kind < 4; kind++) {
            for (int pot = 0; pot < 5; pot++) {
                Check.equal("seen(" + kind + ", " + pot + ")", want[kind][pot], x.seen(kind, pot));
            }
            Check.equal("black", 0, x.seen(kind, 7));
        }
    }

    private static void seenByOwnEyesAlone() {
        PotLabels x = new PotLabels();
        Check.pots(x, "7=725");
        x.borrow(2, 0);
        Check.equal("seen with borrowed eyes", 720, x.seen(2, 7));
        x.painter(2, 0, 3);
        Check.equal("seen with other eyes", 444, x.seen(2, 7));
    }

    private static void seenRefuses() {
        PotLabels x = new PotLabels();
        Check.noPot(x, "seen(-1, 0)", () -> x.seen(-1, 0));
        Check.noPot(x, "seen(4, 0)", () -> x.seen(4, 0));
        Check.noPot(x, "seen(0, -1)", () -> x.seen(0, -1));
        Check.noPot(x, "seen(0, 8)", () -> x.seen(0, 8));
    }

    private static void painterOfNumbers() {
        PotLabels x = new PotLabels();
        Check.pots(x, "0=004;1=900");
        x.painter(1, 1, 4);
        x.borrow(1, 2);
        x.hang(0, 7);
        x.hang(1, 7);
        x.hang(6, 7);
        int[][] want = {{0, 3, -1, 13, 0, 1, 2}, {1, 4, 2, 7, 0, 1, 1}, {2, 3, -1, 7, 0, 1, 1},
            {3, 3, -1, 7, 0, 1, 1}};
        for (int painter = 0; painter < 4; painter++) {
            for (int what = 0; what < 7; what++) {
                Check.equal("painterOf(" + painter + ", " + what + ")", want[painter][what],
                        x.painterOf(painter, what));
            }
        }
    }

    private static void labelsRightForPainters() {
        PotLabels x = new PotLabels();
        Check.pots(x, "0=004;1=900");
        for (int pot = 0; pot < 8; pot++) {
            x.label(pot, 0);
        }
        Check.equal("alike for the painter 0", 13, x.painterOf(0, 4));
        Check.equal("not right for the painter 0", 0, x.painterOf(0, 5));
        Check.equal("alike for the painter 2", 7, x.painterOf(2, 4));
        Check.equal("right for nobody", 0, x.count(4));
        x.label(1, 7);
        Check.equal("alike then for the painter 0", 6, x.painterOf(0, 4));
        Check.equal("right for the painter 2", 1, x.painterOf(2, 5));
        Check.equal("right for the painters 2 and 3", 2, x.count(4));
        x.label(0, -1);
        Check.equal("a pot without a label is like none", 0, x.painterOf(0, 4));
        Check.equal("right for all", 4, x.count(4));
        x.label(1, -1);
        Check.equal("two without labels are not alike", 0, x.painterOf(0, 4));
        Check.equal("right for the painter 0", 1, x.painterOf(0, 5));
    }

    private static void painterOfRefuses() {
        PotLabels x = new PotLabels();
        Check.noPot(x, "painterOf(-1, 0)", () -> x.painterOf(-1, 0));
        Check.noPot(x, "painterOf(4, 0)", () -> x.painterOf(4, 0));
        Check.noPot(x, "painterOf(4, 7)", () -> x.painterOf(4, 7));
        Check.noArgument(x, "painterOf(0, -1)", () -> x.painterOf(0, -1));
        Check.noArgument(x, "painterOf(0, 7)", () -> x.painterOf(0, 7));
    }

    private static void apartIsFartherThanSharpness() {
        PotLabels x = new PotLabels();
        Check.pots(x, "0=111;1=112;2=999");
        Check.equal("3 is not farther than 3", 0, x.apart(0, 0, 7));
        Check.equal("4 is farther than 3", 1, x.apart(0, 1, 7));
        Check.equal("the other way round", 1, x.apart(0, 7, 1));
        Check.equal("1 is not", 0, x.apart(0, 0, 1));
        x.painter(0, 1, 0);
        Check.equal("1 is farther than 0", 1, x.apart(0, 0, 1));
        for (int pot = 0; pot < 8; pot++) {
            Check.equal("a pot from itself", 0, x.apart(0, pot, pot));
        }
        x.painter(0, 1, 26);
        Check.equal("27 is farther than 26", 1, x.apart(0, 2, 7));
        x.painter(0, 1, 27);
        Check.equal("nothing is farther than 27", 0, x.apart(0, 2, 7));
    }

    private static void apartBySeenColours() {
        PotLabels x = new PotLabels();
        Check.pots(x, "0=900;1=090;2=009;3=405;4=423");
        int[][] pairs = {{0, 1}, {2, 7}, {3, 4}, {0, 2}};
        int[][] want = {{1, 1, 1, 1}, {0, 1, 1, 1}, {1, 0, 0, 1}, {0, 1, 0, 0}};
        for (int painter = 0; painter < 4; painter++) {
            for (int pair = 0; pair < pairs.length; pair++) {
                Check.equal("apart(" + painter + ", " + pairs[pair][0] + ", " + pairs[pair][1] + ")",
                        want[painter][pair], x.apart(painter, pairs[pair][0], pairs[pair][1]));
            }
        }
    }

    private static void apartRefuses() {
        PotLabels x = new PotLabels();
        Check.noPot(x, "apart(-1, 0, 0)", () -> x.apart(-1, 0, 0));
        Check.noPot(x, "apart(4, 0, 0)", () -> x.apart(4, 0, 0));
        Check.noPot(x, "apart(0, -1, 0)", () -> x.apart(0, -1, 0));
        Check.noPot(x, "apart(0, 8, 0)", () -> x.apart(0, 8, 0));
        Check.noPot(x, "apart(0, 0, -1)", () -> x.apart(0, 0, -1));
        Check.noPot(x, "apart(0, 0, 8)", () -> x.apart(0, 0, 8));
        Check.noPot(x, "apart(0, 8, 8)", () -> x.apart(0, 8, 8));
    }

    private static void chartOfNumbers() {
        PotLabels x = new PotLabels();
        Check.pots(x, "0=004;1=900");
        x.hang(0, 5);
        x.hang(6, 1);
        x.hang(2, 3);
        int[][] want = {{0, 5, 3}, {6, 1, 15}, {2, 3, 0}};
        for (int chart = 0; chart < 3; chart++) {
            for (int what = 0; what < 3; what++) {
                Check.equal("chartOf(" + chart + ", " + what + ")", want[chart][what], x.chartOf(chart, what));
            }
        }
        x.painter(1, 1, 27);
        x.painter(2, 0, 0);
        Check.equal("other painters read it then", 5, x.chartOf(0, 2));
    }

    private static void chartOfRefuses() {
        PotLabels x = new PotLabels();
        x.hang(0, 1);
        Check.noPot(x, "chartOf(-1, 0)", () -> x.chartOf(-1, 0));
        Check.noPot(x, "chartOf(1, 0)", () -> x.chartOf(1, 0));
        Check.noPot(x, "chartOf(1, 3)", () -> x.chartOf(1, 3));
        Check.noPot(x, "chartOf(6, 0)", () -> x.chartOf(6, 0));
        Check.noArgument(x, "chartOf(0, -1)", () -> x.chartOf(0, -1));
        Check.noArgument(x, "chartOf(0, 3)", () -> x.chartOf(0, 3));
    }

    private static void countNumbers() {
        PotLabels x = new PotLabels();
        Check.pots(x, "0=004;1=900");
        x.label(0, 7);
        x.label(1, 7);
        x.label(2, 0);
        x.hang(0, 7);
        x.hang(2, 7);
        x.correct(1, 0);
        x.correct(1, 0);
        x.painter(3, 1, 27);
        x.correct(1, 3);
        x.correct(1, 3);
        // The pots 0 and 2 are 004 then, 1 is 900, five are black: of 28 pairs 7 + 10 are told apart.
        int[] want = {3, 2, 2, 11, 1, 1, 2, 6};
        for (int what = 0; what < want.length; what++) {
            Check.equal("count(" + what + ")", want[what], x.count(what));
        }
        x.label(0, -1);
        Check.equal("labels", 2, x.count(0));
        Check.equal("unlike labels", 2, x.count(1));
        Check.equal("right for all", 4, x.count(4));
        x.borrow(3, 0);
        Check.equal("pairs told by nobody", 11, x.count(3));
        x.painter(0, 1, 27);
        Check.equal("pairs told by nobody but 1", 11, x.count(3));
        x.painter(1, 1, 27);
        Check.equal("pairs told by nobody but 2", 21, x.count(3));
        x.painter(2, 1, 27);
        Check.equal("all pairs", 28, x.count(3));
    }

    private static void countRefuses() {
        PotLabels x = new PotLabels();
        Check.noArgument(x, "count(-1)", () -> x.count(-1));
        Check.noArgument(x, "count(8)", () -> x.count(8));
        Check.noArgument(x, "count(MIN)", () -> x.count(Integer.MIN_VALUE));
    }

    private static void looksChangeNothing() {
        PotLabels x = new PotLabels();
        Check.pots(x, "0=004;1=900");
        x.hang(0, 1);
        Check.type(x, "7=");
        long before = x.digest();
        x.potOf(0, 4);
        x.seen(1, 1);
        x.painterOf(3, 4);
        x.apart(0, 1, 2);
        x.chartOf(0, 2);
        x.count(3);
        x.fewest(0, 0);
        x.fewest(0, 1);
        x.ifBorrowed(2, 0);
        x.leastChange(2, 3, 4);
        x.bestPainter();
        x.apartShare();
        Check.equal("the digest behind all looks", before, x.digest());
    }
}
