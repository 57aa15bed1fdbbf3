/** Promises 23 to 28: fewest, ifBorrowed, leastChange, bestPainter, apartShare, digest. */
public final class WhatWouldBeTest {
    public static void main(String[] args) {
        fewestOfKnownPots();
        fewestRefuses();
        ifBorrowedCountsPairs();
        ifBorrowedRefuses();
        leastChangeTells();
        leastChangeRefuses();
        bestPainterIsTheLowest();
        apartShareIsTold();
        digestFollowsTheList();
        digestOfManyShares();
        Check.finish();
    }

    private static void fewest(PotLabels x, int painter, int want) {
        Check.equal("fewest(" + painter + ", 0)", want, x.fewest(painter, 0));
        Check.equal("fewest(" + painter + ", 1)", want, x.fewest(painter, 1));
    }

    private static void fewestOfKnownPots() {
        PotLabels x = new PotLabels();
        for (int painter = 0; painter < 4; painter++) {
            fewest(x, painter, 1);
        }
        Check.pots(x, "0=000;1=900;2=090;3=009;4=990;5=909;6=099;7=999");
        int[] want = {8, 6, 4, 4};
        for (int painter = 0; painter < 4; painter++) {
            fewest(x, painter, want[painter]);
        }
        x.borrow(3, 0);
        fewest(x, 3, 8);
        Check.pots(x, "0=003;1=006;2=009;3=000;4=003;5=003;6=003;7=003");
        fewest(x, 0, 2);
        // A ring of five, of which those next to each other are told apart, needs three.
        PotLabels y = new PotLabels();
        y.painter(0, 1, 9);
        Check.pots(y, "0=835;1=150;2=205;3=960;4=500;5=835;6=835;7=835");
        for (int pot = 0; pot < 5; pot++) {
            for (int other = 0; other < 5; other++) {
                int gap = Math.abs(pot - other);
                Check.equal("the ring at " + pot + " and " + other, gap == 1 || gap == 4 ? 1 : 0,
                        y.apart(0, pot, other));
            }
        }
        fewest(y, 0, 3);
        y.labelAll(3);
        Check.equal("labels that stand do not matter", 3, y.fewest(0, 1));
    }

    private static void fewestRefuses() {
        PotLabels x = new PotLabels();
        Check.noPot(x, "fewest(-1, 0)", () -> x.fewest(-1, 0));
        Check.noPot(x, "fewest(4, 0)", () -> x.fewest(4, 0));
        Check.noPot(x, "fewest(4, 2)", () -> x.fewest(4, 2));
        Check.noArgument(x, "fewest(0, -1)", () -> x.fewest(0, -1));
        Check.noArgument(x, "fewest(0, 2)", () -> x.fewest(0, 2));
    }

    private static void ifBorrowedCountsPairs() {
        PotLabels x = new PotLabels();
        Check.pots(x, "0=004;1=900");
        int[][] want = {{13, 13, 13, 13}, {13, 13, 13, 13}, {13, 13, 7, 7}, {13, 13, 7, 7}};
        for (int painter = 0; painter < 4; painter++) {
            for (int lender = 0; lender < 4; lender++) {
                Check.equal("ifBorrowed(" + painter + ", " + lender + ")", want[painter][lender],
                        x.ifBorrowed(painter, lender));
            }
        }
        x.borrow(2, 0);
        Check.equal("in place of those borrowed", 7, x.ifBorrowed(2, 3));
        Check.equal("without borrowed ones", 7, x.ifBorrowed(2, 2));
        Check.equal("those that are borrowed", 13, x.ifBorrowed(2, 0));
        Check.equal("whatever the lender has borrowed", 7, x.ifBorrowed(3, 2));
        x.painter(0, 1, 27);
        Check.equal("by the own sharpness", 13, x.ifBorrowed(3, 0));
        Check.equal("nothing is borrowed by it", -1, x.painterOf(3, 2));
        Check.equal("the lender stays", 0, x.painterOf(2, 2));
    }

    private static void ifBorrowedRefuses() {
        PotLabels x = new PotLabels();
        Check.noPot(x, "ifBorrowed(-1, 0)", () -> x.ifBorrowed(-1, 0));
        Check.noPot(x, "ifBorrowed(4, 0)", () -> x.ifBorrowed(4, 0));
        Check.noPot(x, "ifBorrowed(0, -1)", () -> x.ifBorrowed(0, -1));
        Check.noPot(x, "ifBorrowed(0, 4)", () -> x.ifBorrowed(0, 4));
    }

    private static void leastChangeTells() {
        PotLabels x = new PotLabels();
        int[] want = {4, 4, 4, 6};
        for (int painter = 0; painter < 4; painter++) {
            Check.equal("leastChange of black", want[painter], x.leastChange(painter, 0, 1));
        }
        x.borrow(3, 2);
        Check.equal("by borrowed eyes", 4, x.leastChange(3, 0, 1));
        Check.pots(x, "0=004;1=555;2=009");
        Check.equal("told apart now", 0, x.leastChange(0, 0, 7));
        x.painter(0, 1, 14);
        Check.equal("the pot 0 would be 000", 4, x.leastChange(0, 0, 1));
        Check.equal("the pot 1 would be 591", 4, x.leastChange(0, 1, 0));
        x.painter(0, 1, 15);
        Check.equal("none is so far from 555", -1, x.leastChange(0, 0, 1));
        Check.equal("but the pot 1 could be", 5, x.leastChange(0, 1, 0));
        x.painter(0, 1, 27);
        Check.equal("none at all", -1, x.leastChange(0, 1, 0));
        Check.equal("nothing is refused by it", 0, x.count(6));
        Check.equal("nothing is changed by it", 4, Check.colour(x, 0));
    }

    private static void leastChangeRefuses() {
        PotLabels x = new PotLabels();
        Check.noPot(x, "leastChange(-1, 0, 1)", () -> x.leastChange(-1, 0, 1));
        Check.noPot(x, "leastChange(4, 0, 1)", () -> x.leastChange(4, 0, 1));
        Check.noPot(x, "leastChange(0, -1, 1)", () -> x.leastChange(0, -1, 1));
        Check.noPot(x, "leastChange(0, 8, 1)", () -> x.leastChange(0, 8, 1));
        Check.noPot(x, "leastChange(0, 0, -1)", () -> x.leastChange(0, 0, -1));
        Check.noPot(x, "leastChange(0, 0, 8)", () -> x.leastChange(0, 0, 8));
        Check.noPot(x, "leastChange(4, 0, 0)", () -> x.leastChange(4, 0, 0));
        Check.noPot(x, "leastChange(0, 8, 8)", () -> x.leastChange(0, 8, 8));
        Check.noArgument(x, "leastChange(0, 0, 0)", () -> x.leastChange(0, 0, 0));
        Check.noArgument(x, "leastChange(3, 7, 7)", () -> x.leastChange(3, 7, 7));
    }

    private static void bestPainterIsTheLowest() {
        PotLabels x = new PotLabels();
        Check.equal("all tell nothing", 0, x.bestPainter());
        Check.pots(x, "0=009;1=004");
        Check.equal("the painters 0 and 1 tell as many", 0, x.bestPainter());
        x.painter(0, 1, 5);
        Check.equal("the painter 1 tells more", 1, x.bestPainter());
        x.painter(1, 1, 27);
        x.painter(0, 1, 27);
        Check.equal("the painter 3 sees a ninth", 3, x.bestPainter());
        x.borrow(2, 1);
        Check.equal("the painter 2 borrows", 2, x.bestPainter());
    }

    private static void share(PotLabels x, int pairs) {
        double want = (double) pairs / 112;
        Check.equal("the share of " + pairs, Double.doubleToLongBits(want), Double.doubleToLongBits(x.apartShare()));
    }

    private static void apartShareIsTold() {
        PotLabels x = new PotLabels();
        share(x, 0);
        x.mix(0, 2, 4);
        share(x, 14);
        Check.pots(x, "0=000;1=900;2=090;3=009;4=990;5=909;6=099;7=999");
        share(x, 28 + 26 + 24 + 22);
        x.borrow(3, 0);
        share(x, 28 + 26 + 24 + 28);
        x.borrow(1, 0);
        x.borrow(2, 0);
        share(x, 112);
    }

    /** The list of the document, told by the calls alone. */
    static long digestByCalls(PotLabels x, boolean first, boolean second, String buffer) {
        long hash = 3677;
        for (int what = 0; what < 8; what++) {
            hash = 31 * hash + x.count(what);
        }
        for (int pot = 0; pot < 8; pot++) {
            for (int what = 0; what < 5; what++) {
                hash = 31 * hash + x.potOf(pot, what);
            }
        }
        for (int painter = 0; painter < 4; painter++) {
            for (int what = 0; what < 7; what++) {
                hash = 31 * hash + x.painterOf(painter, what);
            }
            for (int pot = 0; pot < 8; pot++) {
                hash = 31 * hash + x.seen(painter, pot);
            }
            hash = 31 * (31 * hash + x.fewest(painter, 0)) + x.fewest(painter, 1);
            for (int lender = 0; lender < 4; lender++) {
                hash = 31 * hash + x.ifBorrowed(painter, lender);
            }
            hash = 31 * (31 * hash + x.leastChange(painter, 0, 7)) + x.leastChange(painter, 7, 0);
        }
        for (int chart = 0; chart < x.count(2); chart++) {
            for (int what = 0; what < 3; what++) {
                hash = 31 * hash + x.chartOf(chart, what);
            }
        }
        hash = 31 * hash + x.bestPainter();
        hash = 31 * hash + Double.doubleToLongBits(x.apartShare());
        hash = 31 * (31 * hash + (first ? 1 : 0)) + (second ? 1 : 0);
        hash = 31 * hash + buffer.length();
        for (int i = 0; i < buffer.length(); i++) {
            hash = 31 * hash + buffer.charAt(i);
        }
        return hash;
    }

    private static void digestFollowsTheList() {
        PotLabels fresh = new PotLabels();
        Check.equal("the digest of a new object", digestByCalls(fresh, false, false, ""), fresh.digest());
        PotLabels x = new PotLabels();
        Check.pots(x, "0=125;1=900;2=090;3=009;4=990;5=909;6=099;7=998");
        x.keep(1);
        x.hang(0, 1);
        x.hang(3, 2);
        x.borrow(2, 1);
        x.label(4, 4);
        x.label(5, 4);
        Check.type(x, "7=~");
        Check.equal("the digest of a busy one", digestByCalls(x, false, true, "7=~"), x.digest());
        x.keep(0);
        x.clearBuffer();
        Check.equal("the digest with both slots", digestByCalls(x, true, true, ""), x.digest());
        PotLabels y = new PotLabels();
        y.keep(0);
        Check.equal("the digest with the first slot", digestByCalls(y, true, false, ""), y.digest());
        Check.equal("the digest again", digestByCalls(y, true, false, ""), y.digest());
        for (int i = 0; i < 60; i++) {
            y.append(126);
        }
        Check.equal("the digest of a full buffer", digestByCalls(y, true, false, "~".repeat(60)), y.digest());
    }

    /** The bits of a share are put together by hand: so many shares are tried. */
    private static void digestOfManyShares() {
        java.util.TreeSet<Double> shares = new java.util.TreeSet<>();
        int seed = 1;
        for (int run = 0; run < 400; run++) {
            PotLabels x = new PotLabels();
            for (int step = 0; step < 24 - run % 20; step++) {
                seed = seed * 1103515245 + 12345;
                x.mix(step % 8, (seed >>> 20) % 3, (seed >>> 8) % 10);
            }
            for (int painter = 0; painter < 4; painter++) {
                seed = seed * 1103515245 + 12345;
                x.painter(painter, 1, (seed >>> 16) % 20);
            }
            shares.add(x.apartShare());
            Check.equal("the digest with the share " + x.apartShare(), digestByCalls(x, false, false, ""), x.digest());
        }
        Check.isTrue("many shares are tried, " + shares.size(), shares.size() >= 50);
    }
}
