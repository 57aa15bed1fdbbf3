/** Promises 1 to 4: a new object, mix, painter, borrow. */
public final class PotsAndPaintersTest {
    public static void main(String[] args) {
        newObject();
        newObjectIsEmpty();
        mixChangesOnePart();
        mixRefuses();
        painterChangesOneNumber();
        painterRefuses();
        borrowAndGiveBack();
        borrowedEyesTellApart();
        borrowRefuses();
        Check.finish();
    }

    private static void newObject() {
        PotLabels x = new PotLabels();
        Check.equal("NONE", -1, PotLabels.NONE);
        for (int pot = 0; pot < 8; pot++) {
            Check.equal("colour of a new pot", 0, Check.colour(x, pot));
            Check.equal("label of a new pot", -1, x.potOf(pot, 3));
        }
        for (int painter = 0; painter < 4; painter++) {
            Check.equal("kind of a new painter", painter, x.painterOf(painter, 0));
            Check.equal("sharpness of a new painter", 3, x.painterOf(painter, 1));
            Check.equal("lender of a new painter", -1, x.painterOf(painter, 2));
        }
        int[] counts = {0, 0, 0, 28, 4, 0, 0, 0};
        for (int what = 0; what < counts.length; what++) {
            Check.equal("count(" + what + ") of a new object", counts[what], x.count(what));
        }
    }

    private static void newObjectIsEmpty() {
        PotLabels x = new PotLabels();
        Check.noState(x, "goBack(0) of a new object", () -> x.goBack(0));
        Check.noState(x, "goBack(1) of a new object", () -> x.goBack(1));
        Check.noState(x, "undo() of a new object", () -> x.undo());
        Check.noPot(x, "chartOf(0, 0) of a new object", () -> x.chartOf(0, 0));
        Check.equal("firstError() of a new object", 0, x.firstError());
        Check.equal("clearBuffer() of a new object", 0, x.clearBuffer());
        PotLabels other = new PotLabels();
        other.mix(0, 0, 9);
        Check.equal("two objects share nothing", 0, x.potOf(0, 0));
    }

    private static void mixChangesOnePart() {
        PotLabels x = new PotLabels();
        x.label(7, 5);
        int[] want = {900, 940, 941};
        int[] value = {9, 4, 1};
        for (int part = 0; part < 3; part++) {
            int now = part;
            Check.undoable(x, "mix of part " + part, () -> x.mix(7, now, value[now]));
            Check.equal("colour behind mix of part " + part, want[part], Check.colour(x, 7));
        }
        Check.equal("mix answers the red", 9, x.mix(7, 0, 0));
        Check.equal("mix answers the green", 4, x.mix(7, 1, 9));
        Check.equal("mix answers the blue", 1, x.mix(7, 2, 0));
        Check.equal("colour behind mix", 90, Check.colour(x, 7));
        Check.equal("label behind mix", 5, x.potOf(7, 3));
        Check.equal("another pot behind mix", 0, Check.colour(x, 6));
        PotLabels y = new PotLabels();
        Check.equal("mix without a change", 0, y.mix(0, 0, 0));
        Check.equal("mix without a change saves", 1, y.count(7));
    }

    private static void mixRefuses() {
        PotLabels x = new PotLabels();
        x.mix(0, 1, 5);
        Check.noPot(x, "mix(-1, 0, 0)", () -> x.mix(-1, 0, 0));
        Check.noPot(x, "mix(8, 0, 0)", () -> x.mix(8, 0, 0));
        Check.noPot(x, "mix(8, 3, 10)", () -> x.mix(8, 3, 10));
        Check.noPot(x, "mix(MIN, 0, 0)", () -> x.mix(Integer.MIN_VALUE, 0, 0));
        Check.noArgument(x, "mix(0, -1, 0)", () -> x.mix(0, -1, 0));
        Check.noArgument(x, "mix(0, 3, 0)", () -> x.mix(0, 3, 0));
        Check.noArgument(x, "mix(0, 0, -1)", () -> x.mix(0, 0, -1));
        Check.noArgument(x, "mix(0, 0, 10)", () -> x.mix(0, 0, 10));
        Check.noArgument(x, "mix(0, MAX, MAX)", () -> x.mix(0, Integer.MAX_VALUE, Integer.MAX_VALUE));
    }

    private static void painterChangesOneNumber() {
        PotLabels x = new PotLabels();
        for (int painter = 0; painter < 4; painter++) {
            Check.equal("painter answers the kind", painter, x.painter(painter, 0, 3 - painter));
            Check.equal("painter answers the sharpness", 3, x.painter(painter, 1, 27 - painter));
        }
        for (int painter = 0; painter < 4; painter++) {
            Check.equal("kind", 3 - painter, x.painterOf(painter, 0));
            Check.equal("sharpness", 27 - painter, x.painterOf(painter, 1));
        }
        Check.equal("painter to 0", 27, x.painter(0, 1, 0));
        Check.equal("sharpness 0", 0, x.painterOf(0, 1));
        PotLabels y = new PotLabels();
        Check.undoable(y, "painter(2, 0, 0)", () -> y.painter(2, 0, 0));
        Check.undoable(y, "painter(2, 1, 9)", () -> y.painter(2, 1, 9));
        Check.undoable(y, "painter(2, 1, 9) again", () -> y.painter(2, 1, 9));
    }

    private static void painterRefuses() {
        PotLabels x = new PotLabels();
        Check.noPot(x, "painter(-1, 0, 0)", () -> x.painter(-1, 0, 0));
        Check.noPot(x, "painter(4, 0, 0)", () -> x.painter(4, 0, 0));
        Check.noPot(x, "painter(4, 2, 99)", () -> x.painter(4, 2, 99));
        Check.noArgument(x, "painter(0, -1, 0)", () -> x.painter(0, -1, 0));
        Check.noArgument(x, "painter(0, 2, 0)", () -> x.painter(0, 2, 0));
        Check.noArgument(x, "painter(0, 0, -1)", () -> x.painter(0, 0, -1));
        Check.noArgument(x, "painter(0, 0, 4)", () -> x.painter(0, 0, 4));
        Check.noArgument(x, "painter(0, 1, -1)", () -> x.painter(0, 1, -1));
        Check.noArgument(x, "painter(0, 1, 28)", () -> x.painter(0, 1, 28));
    }

    private static void borrowAndGiveBack() {
        PotLabels x = new PotLabels();
        Check.equal("give back nothing", -1, x.borrow(1, 1));
        Check.equal("it saves a state", 1, x.count(7));
        Check.equal("borrow(1, 0)", -1, x.borrow(1, 0));
        Check.equal("lender", 0, x.painterOf(1, 2));
        Check.equal("borrow(1, 3)", 0, x.borrow(1, 3));
        Check.equal("lender in place of the one before", 3, x.painterOf(1, 2));
        Check.equal("the lender has borrowed nothing", -1, x.painterOf(3, 2));
        Check.equal("borrow(1, 1)", 3, x.borrow(1, 1));
        Check.equal("nothing borrowed", -1, x.painterOf(1, 2));
        PotLabels y = new PotLabels();
        Check.undoable(y, "borrow(0, 3)", () -> y.borrow(0, 3));
        Check.undoable(y, "borrow(0, 0)", () -> y.borrow(0, 0));
    }

    private static void borrowedEyesTellApart() {
        PotLabels x = new PotLabels();
        x.mix(0, 2, 4);
        x.borrow(2, 3);
        x.borrow(3, 0);
        Check.equal("painter 3 tells apart by borrowed eyes", 1, x.apart(3, 0, 1));
        Check.equal("not by what the lender has borrowed", 0, x.apart(2, 0, 1));
        x.painter(3, 0, 0);
        Check.equal("by the kind that the lender has now", 1, x.apart(2, 0, 1));
        x.painter(3, 1, 27);
        Check.equal("not by the sharpness of the lender", 1, x.apart(2, 0, 1));
        x.painter(2, 1, 4);
        Check.equal("by the own sharpness", 0, x.apart(2, 0, 1));
        x.painter(2, 1, 3);
        x.borrow(2, 1);
        x.painter(1, 0, 2);
        Check.equal("those borrowed before are gone", 0, x.apart(2, 0, 1));
        x.painter(2, 0, 0);
        Check.equal("by the own eyes as well", 1, x.apart(2, 0, 1));
        x.borrow(3, 3);
        x.painter(3, 1, 3);
        x.painter(3, 0, 3);
        Check.equal("given back", 0, x.apart(3, 0, 1));
    }

    private static void borrowRefuses() {
        PotLabels x = new PotLabels();
        x.borrow(0, 1);
        Check.noPot(x, "borrow(-1, 0)", () -> x.borrow(-1, 0));
        Check.noPot(x, "borrow(4, 0)", () -> x.borrow(4, 0));
        Check.noPot(x, "borrow(0, -1)", () -> x.borrow(0, -1));
        Check.noPot(x, "borrow(0, 4)", () -> x.borrow(0, 4));
        Check.noPot(x, "borrow(4, 4)", () -> x.borrow(4, 4));
    }
}
