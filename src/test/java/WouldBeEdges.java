import java.math.BigInteger;
import java.util.ArrayList;
import java.util.List;
import java.util.Set;
import java.util.TreeSet;

/** A test for each sentence of the promises 23 to 28: what would be, and the digest. */
final class WouldBeEdges {
    private WouldBeEdges() {
    }

    static void all() {
        fewest();
        ifBorrowed();
        leastChange();
        bestPainter();
        apartShare();
        digest();
    }

    // ---- promise 23

    private static void fewest(PotLabels x, int painter, int want) {
        Check.equal("fewest(" + painter + ", 0)", want, x.fewest(painter, 0));
        Check.equal("fewest(" + painter + ", 1)", want, x.fewest(painter, 1));
    }

    private static void fewest() {
        Sentences.test(23, "Tells the fewest labels of a painter", () -> {
            PotLabels x = Edge.pots("0=003;1=006;2=009;3=000;4=003;5=003;6=003;7=003");
            Check.equal("labelAll takes more", 3, x.labelAll(0));
            fewest(x, 0, 2);
            fewest(x, 2, 1);
            x.borrow(2, 0);
            fewest(x, 2, 2);
        });
        Sentences.test(23, "`painter`: 0 to 3", () -> {
            Edge.takes("fewest", 0, 3, (x, painter) -> x.fewest(painter, 0));
            PotLabels x = Edge.pots(Edge.UNLIKE);
            int[] want = {8, 6, 4, 4};
            for (int painter = 0; painter < 4; painter++) {
                fewest(x, painter, want[painter]);
            }
        });
        Sentences.test(23, "`what`: 0: told by sets of pots: a set needs one more than what is left of it behind "
                + "taking a set out of which no two are told apart; 1: told by trying labels, pot after pot", () -> {
            // A ring of five, of which those next to each other are told apart, needs three.
            PotLabels ring = new PotLabels();
            ring.painter(0, 1, 9);
            Check.pots(ring, "0=835;1=150;2=205;3=960;4=500;5=835;6=835;7=835");
            fewest(ring, 0, 3);
            // The largest set of which no two are told apart is not always a good one to take out.
            PotLabels row = Edge.pots("0=000;1=004;2=002;3=006;4=001;5=005;6=003;7=007");
            fewest(row, 0, 2);
            PotLabels long4 = Edge.pots("0=000;1=009;2=005;3=060;4=640;5=204;6=363;7=999");
            Check.equal("both ways", long4.fewest(0, 0), long4.fewest(0, 1));
        });
        Sentences.test(23, "Returns the fewest labels, 1 to 8 (the same for both)", () -> {
            String[] unlike = {"000", "900", "090", "009", "990", "909", "099", "999"};
            for (int labels = 1; labels <= 8; labels++) {
                StringBuilder text = new StringBuilder();
                for (int pot = 0; pot < 8; pot++) {
                    text.append(pot > 0 ? ";" : "").append(pot).append('=');
                    text.append(unlike[Math.min(7 - pot, labels - 1)]);
                }
                fewest(Edge.pots(text.toString()), 0, labels);
            }
            PotLabels blind = Edge.pots(Edge.UNLIKE);
            blind.painter(0, 1, 27);
            fewest(blind, 0, 1);
        });
        Sentences.test(23, "Throws `IndexOutOfBoundsException` if there is no such painter", () -> {
            Edge.refusesOutside("fewest", Edge.NO_SUCH, 0, 3, (x, painter) -> x.fewest(painter, 0));
            Edge.refusesOutside("fewest by trying", Edge.NO_SUCH, 0, 3, (x, painter) -> x.fewest(painter, 1));
            Edge.refusesOutside("fewest, wrong", Edge.NO_SUCH, 0, 3, (x, painter) -> x.fewest(painter, 2));
        });
        Sentences.test(23, "Throws `IllegalArgumentException` if what is not 0 or 1",
                () -> Edge.refusesOutside("what", Edge.WRONG, 0, 1, (x, what) -> x.fewest(3, what)));
    }

    // ---- promise 24

    private static void ifBorrowed() {
        Sentences.test(24, "Tells how many pairs a painter would tell apart with borrowed eyes", () -> {
            PotLabels x = Edge.pots("0=004;1=900");
            Check.equal("with those of the painter 0", 13, x.ifBorrowed(2, 0));
            x.borrow(2, 0);
            Check.equal("so it is", x.painterOf(2, 3), x.ifBorrowed(2, 0));
            Check.equal("in place of those borrowed now", 7, x.ifBorrowed(2, 3));
            Check.equal("the lender's borrowed eyes do not help", 7, x.ifBorrowed(3, 2));
            x.painter(0, 1, 27);
            Check.equal("nor does the lender's sharpness", 13, x.ifBorrowed(2, 0));
            x.painter(2, 1, 4);
            Check.equal("by the own sharpness", 7, x.ifBorrowed(2, 0));
            Check.equal("nothing is borrowed by it", -1, x.painterOf(3, 2));
        });
        Sentences.test(24, "`painter`: 0 to 3", () -> {
            Edge.takes("ifBorrowed of the painter", 0, 3, (x, painter) -> x.ifBorrowed(painter, 0));
            PotLabels x = Edge.pots("0=004;1=900");
            int[] want = {13, 13, 7, 7};
            for (int painter = 0; painter < 4; painter++) {
                Check.equal("from the painter 3", want[painter], x.ifBorrowed(painter, 3));
            }
        });
        Sentences.test(24, "`lender`: 0 to 3; the painter: without borrowed ones", () -> {
            PotLabels x = Edge.pots("0=004;1=900");
            int[][] want = {{13, 13, 13, 13}, {13, 13, 13, 13}, {13, 13, 7, 7}, {13, 13, 7, 7}};
            for (int painter = 0; painter < 4; painter++) {
                x.borrow(painter, 3 - painter);
                for (int lender = 0; lender < 4; lender++) {
                    Check.equal("ifBorrowed(" + painter + ", " + lender + ")", want[painter][lender],
                            x.ifBorrowed(painter, lender));
                }
            }
        });
        Sentences.test(24, "Returns how many pairs of pots", () -> {
            PotLabels x = new PotLabels();
            Check.equal("none", 0, x.ifBorrowed(0, 3));
            Check.pots(x, Edge.UNLIKE);
            Check.equal("all", 28, x.ifBorrowed(3, 0));
            Check.equal("all by the own eyes", 28, x.ifBorrowed(0, 0));
            Check.equal("the fewest of these", 22, x.ifBorrowed(3, 3));
            x.painter(3, 1, 27);
            Check.equal("none by one who tells nothing", 0, x.ifBorrowed(3, 0));
        });
        Sentences.test(24, "Throws `IndexOutOfBoundsException` if there is no such painter", () -> {
            Edge.refusesOutside("the painter", Edge.NO_SUCH, 0, 3, (x, painter) -> x.ifBorrowed(painter, 0));
            Edge.refusesOutside("the lender", Edge.NO_SUCH, 0, 3, (x, lender) -> x.ifBorrowed(3, lender));
            Edge.refusesOutside("both", Edge.NO_SUCH, 0, 3, (x, both) -> x.ifBorrowed(both, both));
        });
    }

    // ---- promise 25

    private static void leastChange() {
        Sentences.test(25, "Tells by how much a colour would have to be corrected", () -> {
            PotLabels x = Edge.pots("0=482;7=573");
            x.hang(0, 7);
            for (int painter = 0; painter < 4; painter++) {
                int least = x.leastChange(painter, 0, 7);
                Check.equal("nothing is changed", 482, Check.colour(x, 0));
                Check.equal("as correct does", x.correct(0, painter), least);
                x.undo();
            }
            Check.equal("nothing is refused", 0, x.count(6));
            Check.equal("nothing is corrected", 0, x.count(5));
        });
        Sentences.test(25, "`painter`: 0 to 3", () -> {
            Edge.takes("leastChange of the painter", 0, 3, (x, painter) -> x.leastChange(painter, 0, 7));
            int[] want = {4, 4, 4, 6};
            for (int painter = 0; painter < 4; painter++) {
                Check.equal("of the painter " + painter, want[painter], new PotLabels().leastChange(painter, 0, 7));
            }
        });
        Sentences.test(25, "`pot`: 0 to 7: the pot that would change", () -> {
            Edge.takes("leastChange of the pot", 0, 6, (x, pot) -> x.leastChange(0, pot, 7));
            Edge.takes("leastChange of the pot", 1, 7, (x, pot) -> x.leastChange(0, pot, 0));
            PotLabels x = Edge.pots("0=004;7=555");
            x.painter(0, 1, 15);
            Check.equal("the pot 0 can not be so far from 555", -1, x.leastChange(0, 0, 7));
            Check.equal("the pot 7 can be so far from 004", 5, x.leastChange(0, 7, 0));
        });
        Sentences.test(25, "`other`: another pot", () -> {
            for (int pot = 0; pot < 8; pot++) {
                PotLabels x = Edge.pots("3=003");
                for (int step = 1; step < 8; step++) {
                    int other = (pot + step) % 8;
                    int want = pot == 3 || other == 3 ? 1 : 4;
                    Check.equal("leastChange(0, " + pot + ", " + other + ")", want, x.leastChange(0, pot, other));
                }
            }
        });
        Sentences.test(25, "Returns the least change behind which the painter tells both apart, 0 if so now; NONE if "
                + "there is none", WouldBeEdges::leastChangeReturns);
        Sentences.test(25, "Throws `IndexOutOfBoundsException` if there is no such painter or pot", () -> {
            Edge.refusesOutside("the painter", Edge.NO_SUCH, 0, 3, (x, painter) -> x.leastChange(painter, 0, 1));
            Edge.refusesOutside("the pot", Edge.NO_SUCH, 0, 7, (x, pot) -> x.leastChange(0, pot, 1));
            Edge.refusesOutside("the other", Edge.NO_SUCH, 0, 7, (x, other) -> x.leastChange(3, 0, other));
            Edge.refusesOutside("both pots", Edge.NO_SUCH, 0, 7, (x, both) -> x.leastChange(0, both, both));
            Edge.refusesOutside("the painter, of one pot", Edge.NO_SUCH, 0, 3,
                    (x, painter) -> x.leastChange(painter, 7, 7));
        });
        Sentences.test(25, "Throws `IllegalArgumentException` if both pots are the same", () -> {
            for (int i = 0; i < 32; i++) {
                int painter = i / 8;
                int both = i % 8;
                Edge.refuses("both are " + both, Edge.WRONG, Edge::busy, x -> x.leastChange(painter, both, both));
            }
        });
    }

    private static int change(String pot, String other, int kind, int sharpness) {
        PotLabels x = Edge.pots("0=" + pot + ";7=" + other);
        x.painter(2, 0, kind);
        x.painter(2, 1, sharpness);
        return x.leastChange(2, 0, 7);
    }

    private static void leastChangeReturns() {
        Check.equal("told apart now", 0, change("004", "000", 0, 3));
        Check.equal("all but told apart", 1, change("003", "000", 0, 3));
        Check.equal("alike, with the sharpness 0", 1, change("555", "555", 0, 0));
        Check.equal("to the other side", 9, change("990", "000", 0, 26));
        Check.equal("the most", 27, change("000", "000", 0, 26));
        Check.equal("through the whole range", 15, change("555", "555", 0, 14));
        Check.equal("none", -1, change("000", "000", 0, 27));
        Check.equal("none from the middle", -1, change("555", "555", 0, 15));
        Check.equal("no red is more than 9", -1, change("900", "099", 0, 27));
        Check.equal("no blue is less than 0", -1, change("990", "009", 0, 27));
        Check.equal("the most of the kind 1", 27, change("000", "000", 1, 26));
        Check.equal("the most of the kind 2", 18, change("000", "000", 2, 17));
        Check.equal("none of the kind 2", -1, change("000", "000", 2, 18));
        Check.equal("the most of the kind 3", 27, change("000", "000", 3, 26));
        Check.equal("thirds of 2 are nothing: one more is enough", 1, change("002", "000", 3, 0));
        Check.equal("halves of 1 are nothing: one more is enough", 1, change("010", "000", 1, 1));
        Check.equal("halves of 0: two are needed, or blue", 2, change("000", "000", 1, 1));
        PotLabels x = Edge.pots("0=009");
        x.painter(2, 1, 18);
        Check.equal("none by the own eyes", -1, x.leastChange(2, 0, 7));
        x.borrow(2, 0);
        Check.equal("but by borrowed ones", 10, x.leastChange(2, 0, 7));
    }

    // ---- promise 26

    private static void bestPainter() {
        Sentences.test(26, "Finds the painter with the best eyes", () -> {
            for (int painter = 0; painter < 4; painter++) {
                PotLabels x = Edge.pots("4=900");
                for (int other = 0; other < 4; other++) {
                    x.painter(other, 1, other == painter ? 8 : 27);
                }
                x.painter(painter, 0, 0);
                Check.equal("the painter " + painter + " alone tells pairs", painter, x.bestPainter());
            }
            PotLabels x = Edge.pots("0=004");
            x.painter(0, 1, 27);
            x.painter(1, 1, 27);
            Check.equal("nobody tells a pair", 0, x.bestPainter());
            x.borrow(3, 0);
            Check.equal("by borrowed eyes", 3, x.bestPainter());
        });
        Sentences.test(26, "Returns the painter who tells the most pairs apart, of several the lowest", () -> {
            Check.equal("all tell nothing", 0, new PotLabels().bestPainter());
            for (int best = 1; best < 16; best++) {
                PotLabels x = Edge.pots("0=900;7=004");
                for (int painter = 0; painter < 4; painter++) {
                    x.painter(painter, 0, 0);
                    x.painter(painter, 1, (best >> painter & 1) == 1 ? 3 : 8);
                }
                int lowest = Integer.numberOfTrailingZeros(best);
                Check.equal("of the mask " + best, lowest, x.bestPainter());
                Check.equal("pairs", 13, x.painterOf(lowest, 3));
            }
        });
    }

    // ---- promise 27

    private static void apartShare() {
        Sentences.test(27, "Returns how much is told apart", () -> {
            Check.isTrue("nothing", new PotLabels().apartShare() == 0.0);
            Check.isTrue("nothing is 0, not -0", 1 / new PotLabels().apartShare() > 0);
            PotLabels x = Edge.pots(Edge.UNLIKE);
            for (int painter = 1; painter < 4; painter++) {
                x.painter(painter, 0, 0);
            }
            Check.isTrue("all", x.apartShare() == 1.0);
        });
        Sentences.test(27, "Returns the pairs that each painter tells apart, summed over all painters, as a double, "
                + "divided by 112", () -> {
            PotLabels x = Edge.pots(Edge.UNLIKE);
            Check.isTrue("28, 26, 24 and 22", x.apartShare() == 100.0 / 112);
            x.borrow(3, 0);
            Check.isTrue("28, 26, 24 and 28", x.apartShare() == 106.0 / 112);
            PotLabels one = Edge.pots("0=030;1=001");
            Check.equal("the one pair that is told", 1, one.painterOf(0, 3));
            Check.isTrue("1 of 112", one.apartShare() == 1.0 / 112);
        });
    }

    // ---- promise 28

    private static void digest() {
        Sentences.test(28, "Computes a hash of the whole state", WouldBeEdges::digestTellsChanges);
        Sentences.test(28, "The hash starts at 3677", () -> {
            PotLabels x = new PotLabels();
            Check.equal("from 3677", exactDigest(x, 3677).longValue(), x.digest());
            Check.isTrue("not from 3676", exactDigest(x, 3676).longValue() != x.digest());
        });
        Sentences.test(28, "For each value v of the following list, in order, the hash becomes 31 * hash + v, in long "
                + "arithmetic with overflow", () -> {
            for (PotLabels x : new PotLabels[] {new PotLabels(), Edge.pots(Edge.UNLIKE)}) {
                BigInteger exact = exactDigest(x, 3677);
                Check.isTrue("it overflows by far", exact.bitLength() > 500);
                Check.equal("what is left of it", exact.longValue(), x.digest());
            }
        });
        Sentences.test(28, "The values are: count(0) to count(7); for each pot its numbers 0 to 4; for each painter "
                + "the numbers 0 to 6, seen of each pot, fewest with 0, then with 1, ifBorrowed from each painter, and "
                + "leastChange of the pots 0 and 7, then of 7 and 0; for each chart its numbers 0 to 2; bestPainter; "
                + "the bits of apartShare (as Double.doubleToLongBits); for each slot 1 if it has a snapshot, "
                + "otherwise 0; the length of the buffer and each of its character codes",
                WouldBeEdges::digestOfStates);
        Sentences.test(28, "Returns the hash", () -> {
            PotLabels x = Edge.made(Edge::busy);
            long hash = x.digest();
            Check.equal("the same again", hash, x.digest());
            Check.equal("the same of one that went the same way", hash, Edge.made(Edge::busy).digest());
        });
    }

    /** The hash without an overflow, of an object without charts, with empty slots and an empty buffer. */
    private static BigInteger exactDigest(PotLabels x, long start) {
        BigInteger hash = BigInteger.valueOf(start);
        for (long value : valuesOf(x)) {
            hash = hash.multiply(BigInteger.valueOf(31)).add(BigInteger.valueOf(value));
        }
        return hash;
    }

    private static List<Long> valuesOf(PotLabels x) {
        List<Long> values = new ArrayList<>();
        for (int what = 0; what < 8; what++) {
            values.add((long) x.count(what));
        }
        for (int i = 0; i < 40; i++) {
            values.add((long) x.potOf(i / 5, i % 5));
        }
        for (int painter = 0; painter < 4; painter++) {
            for (int what = 0; what < 7; what++) {
                values.add((long) x.painterOf(painter, what));
            }
            for (int pot = 0; pot < 8; pot++) {
                values.add((long) x.seen(painter, pot));
            }
            values.add((long) x.fewest(painter, 0));
            values.add((long) x.fewest(painter, 1));
            for (int lender = 0; lender < 4; lender++) {
                values.add((long) x.ifBorrowed(painter, lender));
            }
            values.add((long) x.leastChange(painter, 0, 7));
            values.add((long) x.leastChange(painter, 7, 0));
        }
        values.addAll(List.of((long) x.bestPainter(), Double.doubleToLongBits(x.apartShare()), 0L, 0L, 0L));
        return values;
    }

    /** Each part of the state, changed alone, gives another hash. */
    private static void digestTellsChanges() {
        Edge.On[] changes = {x -> x.mix(0, 0, 8), x -> x.mix(7, 2, 8), x -> x.label(0, 0), x -> x.label(7, 7),
            x -> x.painter(0, 0, 3), x -> x.painter(3, 1, 27), x -> x.borrow(0, 3), x -> x.borrow(3, 0),
            x -> x.hang(0, 1), x -> x.hang(0, 2), x -> x.hang(2, 0), x -> x.mix(0, 0, x.potOf(0, 0)),
            x -> x.keep(0), x -> x.keep(1), x -> x.append('!'), x -> x.append('~')};
        Set<Long> hashes = new TreeSet<>();
        hashes.add(Edge.pots(Edge.UNLIKE).digest());
        for (Edge.On change : changes) {
            PotLabels x = Edge.pots(Edge.UNLIKE);
            change.run(x);
            hashes.add(x.digest());
        }
        Check.equal("unlike hashes", changes.length + 1, hashes.size());
    }

    private static void state(String name, String buffer, boolean first, boolean second, Edge.On prepare) {
        PotLabels x = Edge.made(prepare);
        Check.equal("the digest " + name, WhatWouldBeTest.digestByCalls(x, first, second, buffer), x.digest());
    }

    /** Colours of which hardly two pairs are as far apart: so many numbers of pairs are told. */
    private static void sharesOfManyPairs() {
        Set<Double> shares = new TreeSet<>();
        for (int sharpness = 0; sharpness <= 27; sharpness++) {
            PotLabels x = Edge.pots("0=000;1=100;2=400;3=910;4=990;5=995;6=997;7=999");
            for (int painter = 0; painter < 4; painter++) {
                x.painter(painter, 1, painter == 0 ? sharpness : 27);
            }
            shares.add(x.apartShare());
            Check.equal("the digest with the sharpness " + sharpness,
                    WhatWouldBeTest.digestByCalls(x, false, false, ""), x.digest());
        }
        Check.isTrue("many shares are tried, " + shares, shares.size() >= 18 && shares.contains(15.0 / 112));
    }

    private static void digestOfStates() {
        state("of a new object", "", false, false, x -> { });
        state("of a busy one", "3=12", true, true, Edge::busy);
        state("with six charts", "", true, false, Edge::sixCharts);
        state("with the slot 1", "", false, true, x -> x.keep(1));
        state("with a full buffer", Edge.TEN_POTS + ";", false, false, Edge::fullBuffer);
        state("with one character", "!", false, false, x -> x.append('!'));
        state("with the share 1", "", false, false, x -> {
            Check.pots(x, Edge.UNLIKE);
            x.painter(1, 0, 0);
            x.painter(2, 0, 0);
            x.painter(3, 0, 0);
        });
        state("with the share 1 / 112", "", false, false, x -> Check.pots(x, "0=030;1=001"));
        state("with a least change of the pots 0 and 7 that no other pots have", "", false, false, x -> {
            Check.pots(x, "0=001;7=004");
            x.painter(0, 1, 5);
        });
        state("with least changes that are unlike both ways", "", false, false, x -> {
            Check.pots(x, "0=004;7=555");
            x.painter(0, 1, 15);
        });
        sharesOfManyPairs();
        state("with NONE as a least change", "", false, false, x -> {
            Check.pots(x, "0=555");
            x.painter(0, 1, 15);
            x.painter(1, 1, 27);
        });
    }
}
