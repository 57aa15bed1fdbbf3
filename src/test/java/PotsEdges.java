/** A test for each sentence of the promises 1 to 4: a new object, mix, painter, borrow. */
final class PotsEdges {
    private PotsEdges() {
    }

    static void all() {
        Sentences.test(1, "Creates black pots without labels, and painters as told above, with empty slots and an "
                + "empty buffer", PotsEdges::newObject);
        mix();
        painter();
        borrow();
    }

    private static void newObject() {
        PotLabels x = new PotLabels();
        Edge.colours(x, "000 000 000 000 000 000 000 000");
        Edge.labels(x, "--------");
        Edge.painters(x, "0/3/- 1/3/- 2/3/- 3/3/-");
        int[] counts = {0, 0, 0, 28, 4, 0, 0, 0};
        for (int what = 0; what < 8; what++) {
            Check.equal("count(" + what + ")", counts[what], x.count(what));
        }
        for (int slot = 0; slot < 2; slot++) {
            int now = slot;
            Edge.refuses("goBack to an empty slot", Edge.NOT_NOW, y -> { }, y -> y.goBack(now));
        }
        Edge.refuses("undo", Edge.NOT_NOW, y -> { }, y -> y.undo());
        Edge.refuses("load of an empty buffer", Edge.WRONG, y -> { }, y -> y.load());
        Edge.refuses("takeDown without charts", Edge.NO_SUCH, y -> { }, y -> y.takeDown(0));
        Check.equal("firstError", 0, x.firstError());
        Check.equal("clearBuffer", 0, x.clearBuffer());
        PotLabels busy = Edge.made(Edge::busy);
        Check.equal("two new objects are alike", new PotLabels().digest(), x.digest());
        Check.isTrue("a busy one is not like a new one", busy.digest() != x.digest());
    }

    // ---- promise 2

    private static void mix() {
        Sentences.test(2, "Changes the colour of a pot; its label stays", PotsEdges::mixChangesOnePot);
        Sentences.test(2, "Undoable", PotsEdges::mixIsUndoable);
        Sentences.test(2, "`pot`: 0 to 7", () -> {
            Edge.takes("mix of the pot", 0, 7, (x, pot) -> x.mix(pot, 0, 9));
            PotLabels x = new PotLabels();
            for (int pot = 0; pot < 8; pot++) {
                x.mix(pot, 2, pot + 1);
            }
            Edge.colours(x, "001 002 003 004 005 006 007 008");
        });
        Sentences.test(2, "`part`: 0: its red; 1: its green; 2: its blue", () -> {
            String[] want = {"900", "090", "009"};
            for (int part = 0; part < 3; part++) {
                PotLabels x = new PotLabels();
                x.mix(0, part, 9);
                Edge.colours(x, want[part] + " 000 000 000 000 000 000 000");
            }
        });
        Sentences.test(2, "`value`: 0 to 9", () -> {
            for (int value = 0; value <= 9; value++) {
                for (int part = 0; part < 3; part++) {
                    PotLabels x = Edge.pots("4=555");
                    x.mix(4, part, value);
                    Check.equal("the part " + part, value, x.potOf(4, part));
                    Check.equal("the next part", 5, x.potOf(4, (part + 1) % 3));
                    Check.equal("the last part", 5, x.potOf(4, (part + 2) % 3));
                }
            }
        });
        Sentences.test(2, "Returns what it was", PotsEdges::mixReturns);
        Sentences.test(2, "Throws `IndexOutOfBoundsException` if there is no such pot", () -> {
            Edge.refusesOutside("mix of the pot", Edge.NO_SUCH, 0, 7, (x, pot) -> x.mix(pot, 0, 0));
            Edge.refusesOutside("wrong mix of the pot", Edge.NO_SUCH, 0, 7, (x, pot) -> x.mix(pot, 3, 10));
        });
        Sentences.test(2, "Throws `IllegalArgumentException` if part is not 0 to 2, or value is out of range", () -> {
            Edge.refusesOutside("mix of the part", Edge.WRONG, 0, 2, (x, part) -> x.mix(7, part, 0));
            for (int part = 0; part < 3; part++) {
                int now = part;
                Edge.refusesOutside("mix to the value", Edge.WRONG, 0, 9, (x, value) -> x.mix(0, now, value));
            }
            Edge.refusesOutside("mix, both wrong", Edge.WRONG, 0, 9, (x, both) -> x.mix(0, both, both));
        });
    }

    private static void mixChangesOnePot() {
        int[] labels = {-1, 0, 7};
        for (int label : labels) {
            PotLabels x = Edge.pots(Edge.UNLIKE);
            x.label(0, label);
            x.label(7, label);
            x.mix(0, 1, 9);
            x.mix(7, 0, 0);
            Edge.colours(x, "090 900 090 009 990 909 099 099");
            String sign = label < 0 ? "-" : Integer.toString(label);
            Edge.labels(x, sign + "------" + sign);
        }
    }

    private static void mixIsUndoable() {
        Edge.undoable("mix", x -> { }, x -> x.mix(0, 0, 9));
        Edge.undoable("mix of the last pot", x -> x.label(7, 7), x -> x.mix(7, 2, 1));
        Edge.undoable("mix that changes nothing", x -> { }, x -> x.mix(3, 1, 0));
        PotLabels x = Edge.pots("5=123");
        x.mix(5, 1, 9);
        x.undo();
        Edge.colours(x, "000 000 000 000 000 123 000 000");
    }

    private static void mixReturns() {
        PotLabels x = Edge.pots("7=975");
        Check.equal("the red", 9, x.mix(7, 0, 0));
        Check.equal("the green", 7, x.mix(7, 1, 7));
        Check.equal("the blue", 5, x.mix(7, 2, 9));
        Check.equal("the red then", 0, x.mix(7, 0, 1));
        Check.equal("the same green", 7, x.mix(7, 1, 0));
        Check.equal("the blue then", 9, x.mix(7, 2, 0));
    }

    // ---- promise 3

    private static void painter() {
        Sentences.test(3, "Changes a painter", () -> {
            PotLabels x = new PotLabels();
            x.borrow(0, 3);
            x.painter(0, 0, 2);
            Edge.painters(x, "2/3/3 1/3/- 2/3/- 3/3/-");
            x.painter(3, 1, 27);
            Edge.painters(x, "2/3/3 1/3/- 2/3/- 3/27/-");
        });
        Sentences.test(3, "Undoable", () -> {
            Edge.undoable("another kind", x -> { }, x -> x.painter(0, 0, 3));
            Edge.undoable("the same kind", x -> { }, x -> x.painter(3, 0, 3));
            Edge.undoable("another sharpness", x -> { }, x -> x.painter(3, 1, 0));
            Edge.undoable("the same sharpness", x -> { }, x -> x.painter(0, 1, 3));
        });
        Sentences.test(3, "`painter`: 0 to 3", () -> {
            Edge.takes("the kind of the painter", 0, 3, (x, painter) -> x.painter(painter, 0, 0));
            PotLabels x = new PotLabels();
            for (int painter = 0; painter < 4; painter++) {
                x.painter(painter, 1, 20 + painter);
            }
            Edge.painters(x, "0/20/- 1/21/- 2/22/- 3/23/-");
        });
        Sentences.test(3, "`what`: 0: the kind of the eyes; 1: the sharpness", () -> {
            PotLabels x = new PotLabels();
            x.painter(2, 0, 1);
            Edge.painters(x, "0/3/- 1/3/- 1/3/- 3/3/-");
            x.painter(2, 1, 0);
            Edge.painters(x, "0/3/- 1/3/- 1/0/- 3/3/-");
        });
        Sentences.test(3, "`value`: in its range", PotsEdges::painterValues);
        Sentences.test(3, "Returns what it was", () -> {
            PotLabels x = new PotLabels();
            Check.equal("the kind of the painter 3", 3, x.painter(3, 0, 0));
            Check.equal("the kind of before", 0, x.painter(3, 0, 0));
            Check.equal("the same kind", 0, x.painter(3, 0, 2));
            Check.equal("the sharpness of the painter 3", 3, x.painter(3, 1, 27));
            Check.equal("the sharpness of before", 27, x.painter(3, 1, 0));
            Check.equal("the least sharpness", 0, x.painter(3, 1, 3));
            Check.equal("the kind stays", 2, x.painter(3, 0, 3));
        });
        Sentences.test(3, "Throws `IndexOutOfBoundsException` if there is no such painter", () -> {
            Edge.refusesOutside("the painter", Edge.NO_SUCH, 0, 3, (x, painter) -> x.painter(painter, 0, 0));
            Edge.refusesOutside("the painter, wrong", Edge.NO_SUCH, 0, 3, (x, painter) -> x.painter(painter, 2, 28));
        });
        Sentences.test(3, "Throws `IllegalArgumentException` if what is not 0 or 1, or value is out of range", () -> {
            Edge.refusesOutside("what", Edge.WRONG, 0, 1, (x, what) -> x.painter(0, what, 0));
            Edge.refusesOutside("the kind", Edge.WRONG, 0, 3, (x, kind) -> x.painter(0, 0, kind));
            Edge.refusesOutside("the sharpness", Edge.WRONG, 0, 27, (x, sharpness) -> x.painter(3, 1, sharpness));
            Edge.refuses("a sharpness as a kind", Edge.WRONG, Edge::busy, x -> x.painter(0, 0, 27));
        });
    }

    private static void painterValues() {
        for (int kind = 0; kind <= 3; kind++) {
            PotLabels x = Edge.pots("1=725");
            x.painter(1, 0, kind);
            Check.equal("the kind", kind, x.painterOf(1, 0));
            int[] seen = {725, 445, 720, 444};
            Check.equal("seen by it", seen[kind], x.seen(1, 1));
        }
        for (int sharpness = 0; sharpness <= 27; sharpness++) {
            PotLabels x = Edge.pots("1=999");
            x.painter(0, 1, sharpness);
            Check.equal("the sharpness", sharpness, x.painterOf(0, 1));
            Check.equal("white from black with it", sharpness < 27 ? 1 : 0, x.apart(0, 0, 1));
        }
    }

    // ---- promise 4

    private static void borrow() {
        Sentences.test(4, "A painter borrows the eyes of another one, in place of those borrowed before; or gives back "
                + "what was borrowed, if both are the same", PotsEdges::borrowAndGiveBack);
        Sentences.test(4, "Undoable", () -> {
            Edge.undoable("borrow", x -> { }, x -> x.borrow(0, 3));
            Edge.undoable("borrow in place of others", x -> x.borrow(0, 3), x -> x.borrow(0, 1));
            Edge.undoable("borrow the same", x -> x.borrow(3, 0), x -> x.borrow(3, 0));
            Edge.undoable("give back", x -> x.borrow(3, 0), x -> x.borrow(3, 3));
            Edge.undoable("give back nothing", x -> { }, x -> x.borrow(0, 0));
        });
        Sentences.test(4, "`painter`: 0 to 3", () -> {
            Edge.takes("borrow of the painter", 0, 3, (x, painter) -> x.borrow(painter, 0));
            PotLabels x = new PotLabels();
            for (int painter = 0; painter < 4; painter++) {
                x.borrow(painter, 3 - painter);
            }
            Edge.painters(x, "0/3/3 1/3/2 2/3/1 3/3/0");
        });
        Sentences.test(4, "`lender`: 0 to 3", () -> {
            for (int painter = 0; painter < 4; painter++) {
                for (int lender = 0; lender < 4; lender++) {
                    PotLabels x = new PotLabels();
                    x.borrow(painter, lender);
                    int want = lender == painter ? -1 : lender;
                    Check.equal(painter + " borrows from " + lender, want, x.painterOf(painter, 2));
                    Check.equal("the lender borrows nothing", want < 0 ? want : -1, x.painterOf(lender, 2));
                }
            }
        });
        Sentences.test(4, "Returns from whom eyes were borrowed before; NONE if from nobody", () -> {
            PotLabels x = new PotLabels();
            Check.equal("from nobody", -1, x.borrow(3, 3));
            Check.equal("from nobody at first", -1, x.borrow(3, 0));
            Check.equal("from the painter 0", 0, x.borrow(3, 0));
            Check.equal("from the painter 0, the same again", 0, x.borrow(3, 2));
            Check.equal("from the painter 2", 2, x.borrow(3, 3));
            Check.equal("given back", -1, x.borrow(3, 1));
            Check.equal("by another painter", -1, x.borrow(0, 3));
            Check.equal("from the painter 3", 3, x.borrow(0, 0));
        });
        Sentences.test(4, "Throws `IndexOutOfBoundsException` if there is no such painter", () -> {
            Edge.refusesOutside("borrow of the painter", Edge.NO_SUCH, 0, 3, (x, painter) -> x.borrow(painter, 0));
            Edge.refusesOutside("borrow from the painter", Edge.NO_SUCH, 0, 3, (x, lender) -> x.borrow(3, lender));
            Edge.refusesOutside("both", Edge.NO_SUCH, 0, 3, (x, both) -> x.borrow(both, both));
        });
    }

    private static void borrowAndGiveBack() {
        PotLabels x = Edge.pots("0=004");
        Check.equal("the painter 3 tells nothing apart", 0, x.apart(3, 0, 1));
        x.borrow(3, 0);
        Check.equal("but with the eyes of the painter 0", 1, x.apart(3, 0, 1));
        Check.equal("seen by the own eyes", 111, x.seen(3, 0));
        x.borrow(3, 2);
        Edge.painters(x, "0/3/- 1/3/- 2/3/- 3/3/2");
        Check.equal("those are gone", 0, x.apart(3, 0, 1));
        x.borrow(2, 3);
        Edge.painters(x, "0/3/- 1/3/- 2/3/3 3/3/2");
        x.borrow(3, 3);
        Edge.painters(x, "0/3/- 1/3/- 2/3/3 3/3/-");
        x.borrow(3, 1);
        Check.equal("with the eyes of the painter 1", 1, x.apart(3, 0, 1));
        x.borrow(3, 3);
        Check.equal("given back", 0, x.apart(3, 0, 1));
        x.borrow(3, 3);
        Edge.painters(x, "0/3/- 1/3/- 2/3/3 3/3/-");
    }
}
