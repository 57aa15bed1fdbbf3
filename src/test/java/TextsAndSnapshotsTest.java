/** Promises 10 to 16: append, clearBuffer, firstError, load, keep, goBack, undo. */
public final class TextsAndSnapshotsTest {
    private static final String FULL =
            "0=001;1=002;2=003;3=004;4=005;5=006;6=007;7=008;0=129;1=345;";

    public static void main(String[] args) {
        appendFillsTheBuffer();
        appendRefuses();
        clearBufferEmpties();
        firstErrorByPlace();
        firstErrorOfLongTexts();
        loadGivesColours();
        loadIsUndoable();
        loadRefuses();
        keepAndGoBack();
        goBackIsUndoable();
        goBackRefuses();
        whatSnapshotsHold();
        whatSavedStatesHold();
        undoSixStates();
        undoLeavesBufferAndSlots();
        undoOfMixedCalls();
        Check.finish();
    }

    private static void appendFillsTheBuffer() {
        PotLabels x = new PotLabels();
        for (int length = 1; length <= 60; length++) {
            Check.equal("append", length, x.append(length % 2 == 0 ? 33 : 126));
        }
        Check.equal("append saves nothing", 0, x.count(7));
        Check.noState(x, "append to a full buffer", () -> x.append(33));
        Check.noArgument(x, "append(32) to a full buffer", () -> x.append(32));
        Check.equal("clearBuffer", 60, x.clearBuffer());
        Check.equal("append behind it", 1, x.append('0'));
    }

    private static void appendRefuses() {
        PotLabels x = new PotLabels();
        x.append('0');
        Check.noArgument(x, "append(32)", () -> x.append(32));
        Check.noArgument(x, "append(127)", () -> x.append(127));
        Check.noArgument(x, "append(0)", () -> x.append(0));
        Check.noArgument(x, "append(-1)", () -> x.append(-1));
        Check.noArgument(x, "append(65536 + 48)", () -> x.append(65536 + 48));
        Check.equal("clearBuffer", 1, x.clearBuffer());
    }

    private static void clearBufferEmpties() {
        PotLabels x = new PotLabels();
        Check.equal("clearBuffer of nothing", 0, x.clearBuffer());
        Check.type(x, "7=9");
        Check.equal("clearBuffer", 3, x.clearBuffer());
        Check.equal("clearBuffer again", 0, x.clearBuffer());
        Check.equal("clearBuffer saves nothing", 0, x.count(7));
        Check.type(x, "1=234");
        Check.equal("nothing of before is left", 5, x.firstError());
        x.load();
        Check.equal("the colour", 234, Check.colour(x, 1));
    }

    private static void error(String text, int want) {
        PotLabels x = new PotLabels();
        Check.type(x, text);
        long before = x.digest();
        Check.equal("firstError of " + text, want, x.firstError());
        Check.equal("firstError changes nothing", before, x.digest());
        if (want < text.length() || text.length() % 6 != 5) {
            Check.noArgument(x, "load of " + text, () -> x.load());
        } else {
            Check.throwing("load of " + text, null, () -> x.load());
        }
    }

    private static void firstErrorByPlace() {
        String whole = "7=909;0=123";
        for (int length = 0; length <= whole.length(); length++) {
            error(whole.substring(0, length), length);
        }
        for (int place = 0; place < whole.length(); place++) {
            for (int code = 33; code <= 126; code++) {
                boolean fits = fits(place % 6, (char) code);
                String text = whole.substring(0, place) + (char) code + whole.substring(place + 1);
                error(text, fits ? text.length() : place);
            }
        }
    }

    private static boolean fits(int place, char sign) {
        String[] fitting = {"01234567", "=", "0123456789", "0123456789", "0123456789", ";"};
        return fitting[place].indexOf(sign) >= 0;
    }

    private static void firstErrorOfLongTexts() {
        error("x", 0);
        error("xx=", 0);
        error("0=12x4", 4);
        error("0=1234", 5);
        error("0=123;;", 6);
        error("0=123;8=123", 6);
        error(FULL, 60);
        error(FULL.substring(0, 59), 59);
        error(FULL.substring(0, 59) + "0", 59);
        error(FULL.substring(0, 58) + "a;", 58);
        error(";" + FULL.substring(1), 0);
    }

    private static void loadGivesColours() {
        PotLabels x = new PotLabels();
        x.label(1, 4);
        x.mix(3, 0, 9);
        Check.type(x, "1=004;7=321");
        Check.equal("pairs of the painter 0", 18, x.load());
        Check.equal("the pot 1", 4, Check.colour(x, 1));
        Check.equal("the pot 7", 321, Check.colour(x, 7));
        Check.equal("the pot 3 stays", 900, Check.colour(x, 3));
        Check.equal("the pot 0 stays", 0, Check.colour(x, 0));
        Check.equal("its label stays", 4, x.potOf(1, 3));
        Check.equal("no label stays", -1, x.potOf(7, 3));
        Check.equal("the buffer is cleared", 0, x.clearBuffer());
        Check.type(x, FULL.substring(0, 59));
        x.load();
        Check.equal("the later colour of the pot 0", 129, Check.colour(x, 0));
        Check.equal("the later colour of the pot 1", 345, Check.colour(x, 1));
        Check.equal("the only colour of the pot 7", 8, Check.colour(x, 7));
        PotLabels y = new PotLabels();
        y.painter(0, 0, 2);
        Check.type(y, "0=009");
        Check.equal("the painter 0 sees no blue", 0, y.load());
        y.borrow(0, 1);
        Check.type(y, "0=009");
        Check.equal("but by borrowed eyes", 7, y.load());
    }

    private static void loadIsUndoable() {
        PotLabels x = new PotLabels();
        Check.type(x, "5=000");
        Check.equal("load without a change", 0, x.load());
        Check.equal("it saves a state", 1, x.count(7));
        Check.type(x, "5=999;4=111");
        x.load();
        Check.type(x, "0");
        Check.equal("undo", 1, x.undo());
        Check.equal("the pot 5 is as before", 0, Check.colour(x, 5));
        Check.equal("the pot 4 is as before", 0, Check.colour(x, 4));
        Check.equal("the buffer is not", 1, x.clearBuffer());
    }

    private static void loadRefuses() {
        PotLabels x = new PotLabels();
        Check.noArgument(x, "load of nothing", () -> x.load());
        Check.type(x, "0=999;");
        Check.noArgument(x, "load of an open text", () -> x.load());
        Check.type(x, "1=99");
        Check.noArgument(x, "load of an open pot", () -> x.load());
        Check.equal("nothing is loaded", 0, Check.colour(x, 0));
        Check.equal("the buffer stays", 10, x.clearBuffer());
    }

    private static void keepAndGoBack() {
        PotLabels x = new PotLabels();
        x.label(0, 0);
        x.label(1, 0);
        int saved = x.count(7);
        Check.equal("keep(0)", 2, x.keep(0));
        Check.equal("keep saves no state", saved, x.count(7));
        x.label(2, 5);
        Check.equal("keep(1)", 3, x.keep(1));
        x.label(0, -1);
        x.label(1, -1);
        Check.equal("goBack(0)", 2, x.goBack(0));
        Check.equal("label of the pot 1", 0, x.potOf(1, 3));
        Check.equal("label of the pot 2", -1, x.potOf(2, 3));
        Check.equal("goBack(1)", 3, x.goBack(1));
        Check.equal("label of the pot 2", 5, x.potOf(2, 3));
        x.label(7, 7);
        Check.equal("the snapshot stays", 3, x.goBack(1));
        x.label(7, 7);
        Check.equal("keep in place of it", 4, x.keep(1));
        Check.equal("goBack to the other slot", 2, x.goBack(0));
        Check.equal("goBack to the new one", 4, x.goBack(1));
        Check.noArgument(x, "keep(-1)", () -> x.keep(-1));
        Check.noArgument(x, "keep(2)", () -> x.keep(2));
    }

    private static void goBackIsUndoable() {
        PotLabels x = new PotLabels();
        x.keep(1);
        x.mix(0, 0, 1);
        Check.undoable(x, "goBack(1)", () -> x.goBack(1));
        Check.undoable(x, "goBack(1) without a change", () -> x.goBack(1));
        Check.equal("the colour of the snapshot", 0, Check.colour(x, 0));
        Check.equal("saved states left", 2, x.undo());
        x.undo();
        Check.equal("the colour before", 100, Check.colour(x, 0));
    }

    private static void goBackRefuses() {
        PotLabels x = new PotLabels();
        Check.noArgument(x, "goBack(-1)", () -> x.goBack(-1));
        Check.noArgument(x, "goBack(2)", () -> x.goBack(2));
        Check.noState(x, "goBack(0)", () -> x.goBack(0));
        x.keep(0);
        Check.noState(x, "goBack(1) of the other slot", () -> x.goBack(1));
        Check.equal("goBack(0) of a slot that is filled", 0, x.goBack(0));
    }

    /** Every part of the state is unlike that of a new object. */
    private static void fill(PotLabels x) {
        Check.pots(x, "0=123;7=456");
        for (int pot = 0; pot < 8; pot++) {
            x.label(pot, 7 - pot);
        }
        for (int painter = 0; painter < 4; painter++) {
            x.painter(painter, 0, 3 - painter);
            x.painter(painter, 1, 10 + painter);
            x.borrow(painter, 3 - painter);
        }
        for (int chart = 0; chart < 6; chart++) {
            x.hang(chart, chart + 2);
        }
        x.hang(0, 1);
        x.correct(0, 3);
    }

    private static void spoil(PotLabels x) {
        for (int i = 0; i < 8; i++) {
            x.mix(i, i % 3, 9);
            x.labelAll(i % 4);
            x.takeDown(0);
            x.hang(7, 0);
            x.hang(6, 0);
            x.correct(0, 0);
            x.painter(i % 4, 0, (i + 2) % 4);
            x.painter(i % 4, 1, 2);
            x.borrow(i % 4, i % 4);
        }
    }

    private static void whatSnapshotsHold() {
        PotLabels x = new PotLabels();
        fill(x);
        Check.equal("refused", 1, x.count(6));
        Check.equal("corrected", 1, x.count(5));
        x.keep(0);
        long before = x.digest();
        spoil(x);
        Check.isTrue("all is spoilt", before != x.digest());
        x.goBack(0);
        Check.equal("goBack brings all back", before, x.digest());
        spoil(x);
        x.goBack(0);
        Check.equal("and again", before, x.digest());
        x.mix(0, 0, 0);
        x.keep(1);
        long both = x.digest();
        spoil(x);
        x.goBack(1);
        Check.equal("so does the other slot", both, x.digest());
        x.goBack(0);
        x.mix(0, 0, 0);
        Check.equal("and the first one", both, x.digest());
    }

    private static void whatSavedStatesHold() {
        PotLabels x = new PotLabels();
        x.keep(0);
        fill(x);
        x.keep(1);
        Check.type(x, "0=999");
        long before = x.digest();
        x.goBack(0);
        x.undo();
        x.mix(0, 0, x.potOf(0, 0));
        Check.equal("undo brings all back", before, x.digest());
        x.goBack(1);
        Check.equal("as it was kept", before, x.digest());
    }

    private static void undoSixStates() {
        PotLabels x = new PotLabels();
        for (int value = 1; value <= 8; value++) {
            x.mix(0, 0, value);
            Check.equal("saved states", Math.min(value, 6), x.count(7));
        }
        for (int left = 5; left >= 0; left--) {
            Check.equal("undo", left, x.undo());
            Check.equal("the red", left + 2, x.potOf(0, 0));
            Check.equal("saved states", left, x.count(7));
        }
        Check.noState(x, "undo() without a state", () -> x.undo());
        x.mix(0, 0, 9);
        Check.equal("undo of one more", 0, x.undo());
        Check.equal("the red", 2, x.potOf(0, 0));
    }

    private static void undoLeavesBufferAndSlots() {
        PotLabels x = new PotLabels();
        x.mix(0, 0, 5);
        x.mix(0, 0, 6);
        x.keep(0);
        Check.type(x, "34");
        x.undo();
        Check.equal("the buffer stays", 2, x.clearBuffer());
        Check.equal("the slot stays", 0, x.goBack(0));
        Check.equal("with its colour", 600, Check.colour(x, 0));
    }

    private static void undoOfMixedCalls() {
        PotLabels x = new PotLabels();
        long[] digests = new long[6];
        Check.Call[] calls = {() -> x.mix(1, 0, 9), () -> x.painter(0, 0, 3), () -> x.borrow(0, 2),
            () -> x.labelAll(2), () -> x.hang(1, 2), () -> x.takeDown(0)};
        for (int i = 0; i < calls.length; i++) {
            digests[i] = x.digest();
            calls[i].run();
        }
        for (int i = calls.length - 1; i >= 0; i--) {
            Check.equal("undo", i, x.undo());
            Check.equal("the digest behind undo", digests[i], x.digest());
        }
    }
}
