import java.util.ArrayList;
import java.util.List;
import java.util.regex.Matcher;
import java.util.regex.Pattern;

/** A test for each sentence of the terms on snapshots, undo and exceptions, and of "Not promised". */
final class StateEdges {
    /** What differs in each place from a new object: all that a snapshot holds. */
    private static final Edge.On[] CHANGES = {x -> x.mix(0, 0, 1), x -> x.mix(7, 2, 9), x -> x.label(0, 0),
        x -> x.label(7, 7), x -> x.painter(0, 0, 3), x -> x.painter(3, 1, 27), x -> x.borrow(0, 3),
        x -> x.borrow(3, 0), x -> x.labelAll(0), x -> x.hang(0, 7), x -> x.hang(7, 0)};

    private StateEdges() {
    }

    static void all(String source) {
        int terms = Sentences.TERMS;
        Sentences.test(terms, "There are two slots; a snapshot is all but the buffer, the slots and the saved states",
                StateEdges::twoSlots);
        Sentences.test(terms, "Each method that is marked \"undoable\" and does not throw an exception saves the state "
                + "from before it (also if it changes nothing, or is refused): all, also what is counted so far, but "
                + "the buffer, the slots and the saved states", StateEdges::savesTheState);
        Sentences.test(terms, "At most 6 states are saved; the oldest one is dropped first", StateEdges::sixStates);
        Sentences.test(terms, "A call that throws an exception changes nothing (the buffer stays as it is, too)",
                StateEdges::throwsWithoutAChange);
        Sentences.test(terms, "If several exceptions apply, the one that is named first in the throws clause is thrown",
                StateEdges::firstOfSeveral);
        Sentences.test(terms, "The constants: `NONE = -1`: There is nothing to return",
                () -> Check.equal("NONE", -1, PotLabels.NONE));
        interfaceSays(source, "pots, painters", "mix", "painter", "borrow");
        interfaceSays(source, "labels, charts", "label", "labelAll", "hang", "takeDown", "correct");
        interfaceSays(source, "texts, snapshots", "append", "clearBuffer", "firstError", "load", "keep", "goBack",
                "undo");
        interfaceSays(source, "looks; nothing is changed", "potOf", "seen", "painterOf", "apart", "chartOf", "count");
        interfaceSays(source, "what would be; nothing is changed", "fewest", "ifBorrowed", "leastChange",
                "bestPainter", "apartShare", "digest");
        Sentences.test(Sentences.NOT_PROMISED, "Nothing is promised beyond the answers and state changes described "
                + "above, and nothing about an object after its 512th call", StateEdges::untilThe512thCall);
    }

    private static void twoSlots() {
        Edge.refusesOutside("keep in a slot", Edge.WRONG, 0, 1, (x, slot) -> x.keep(slot));
        for (Edge.On change : CHANGES) {
            PotLabels x = new PotLabels();
            x.keep(0);
            change.run(x);
            x.keep(1);
            Check.type(x, "5");
            long changed = x.digest();
            x.goBack(0);
            x.undo();
            Check.equal("undo of goBack", changed, x.digest());
            x.goBack(0);
            PotLabels like = new PotLabels();
            like.keep(0);
            like.keep(1);
            Check.type(like, "5");
            Edge.saveUpTo(like, 2);
            Check.equal("goBack takes the change away, and leaves the rest", like.digest(), x.digest());
            x.goBack(1);
            x.undo();
            x.undo();
            Check.equal("both slots stay", changed, x.digest());
        }
        snapshotsHoldWhatIsCounted();
    }

    private static void snapshotsHoldWhatIsCounted() {
        PotLabels x = Edge.made(Edge::sixCharts);
        x.keep(0);
        x.correct(0, 0);
        x.hang(0, 1);
        x.hang(0, 1);
        x.keep(1);
        x.goBack(0);
        Check.equal("corrections of the slot 0", 0, x.count(5));
        Check.equal("refused in the slot 0", 0, x.count(6));
        x.goBack(1);
        Check.equal("corrections of the slot 1", 1, x.count(5));
        Check.equal("refused in the slot 1", 2, x.count(6));
        Check.equal("saved states are none of it", 6, x.count(7));
    }

    private static void savesTheState() {
        for (Edge.On change : CHANGES) {
            Edge.undoable("a change", x -> { }, change);
            Edge.undoable("the same once more", change, change);
        }
        Edge.On refusedHang = x -> x.hang(1, 2);
        Edge.undoable("a chart that is refused", Edge::sixCharts, refusedHang);
        Edge.undoable("one more that is refused", Edge.both(Edge::sixCharts, refusedHang), refusedHang);
        Edge.On blindChart = x -> {
            x.hang(0, 1);
            x.painter(0, 1, 27);
        };
        Edge.undoable("a correction that is refused", blindChart, x -> x.correct(0, 0));
        Edge.undoable("a correction", x -> x.hang(0, 1), x -> x.correct(0, 0));
        Edge.undoable("a chart is taken down", x -> x.hang(0, 1), x -> x.takeDown(0));
        Edge.undoable("goBack", x -> {
            x.keep(1);
            x.mix(0, 0, 5);
        }, x -> x.goBack(1));
        PotLabels x = Edge.made(Edge::busy);
        Check.type(x, "3");
        Check.equal("load", 0, x.load());
        Check.equal("undo of load", 5, x.undo());
        Check.equal("the buffer stays as load left it", 0, x.clearBuffer());
    }

    private static void sixStates() {
        PotLabels x = new PotLabels();
        for (int i = 1; i <= 9; i++) {
            x.mix(0, 2, i);
            Check.equal("saved states", i < 6 ? i : 6, x.count(7));
        }
        for (int left = 5; left >= 0; left--) {
            Check.equal("states left", left, x.undo());
            Check.equal("the blue of the state", left + 3, x.potOf(0, 2));
        }
        Check.throwing("undo of the seventh state", Edge.NOT_NOW, () -> x.undo());
        // The row may be filled, emptied in part and filled again.
        for (int i = 0; i < 4; i++) {
            x.label(i, i);
        }
        x.undo();
        x.undo();
        for (int i = 4; i < 8; i++) {
            x.label(i, i);
        }
        Check.equal("six again", 6, x.count(7));
        String[] want = {"01--456-", "01--45--", "01--4---", "01------", "0-------", "--------"};
        for (String labels : want) {
            x.undo();
            Edge.labels(x, labels);
        }
    }

    private static void throwsWithoutAChange() {
        refusesWithFullRow("mix", x -> x.mix(8, 0, 0), x -> x.mix(0, 3, 0), x -> x.mix(0, 0, 10));
        refusesWithFullRow("painter", x -> x.painter(4, 0, 0), x -> x.painter(0, 2, 0), x -> x.painter(0, 1, 28));
        refusesWithFullRow("borrow", x -> x.borrow(4, 0), x -> x.borrow(0, 4));
        refusesWithFullRow("label", x -> x.label(8, 0), x -> x.label(0, 8));
        refusesWithFullRow("labelAll", x -> x.labelAll(4));
        refusesWithFullRow("hang", x -> x.hang(8, 0), x -> x.hang(0, 8), x -> x.hang(0, 0));
        refusesWithFullRow("takeDown", x -> x.takeDown(2), x -> x.takeDown(-1));
        refusesWithFullRow("correct", x -> x.correct(2, 0), x -> x.correct(0, 4));
        refusesWithFullRow("append", x -> x.append(32));
        refusesWithFullRow("load", x -> x.load());
        refusesWithFullRow("keep", x -> x.keep(2));
        refusesWithFullRow("goBack", x -> x.goBack(2));
        refusesWithFullRow("potOf", x -> x.potOf(8, 0), x -> x.potOf(0, 5));
        refusesWithFullRow("seen", x -> x.seen(4, 0), x -> x.seen(0, 8));
        refusesWithFullRow("painterOf", x -> x.painterOf(4, 0), x -> x.painterOf(0, 7));
        refusesWithFullRow("apart", x -> x.apart(4, 0, 1), x -> x.apart(0, 8, 1), x -> x.apart(0, 1, 8));
        refusesWithFullRow("chartOf", x -> x.chartOf(2, 0), x -> x.chartOf(0, 3));
        refusesWithFullRow("count", x -> x.count(8));
        refusesWithFullRow("fewest", x -> x.fewest(4, 0), x -> x.fewest(0, 2));
        refusesWithFullRow("ifBorrowed", x -> x.ifBorrowed(4, 0), x -> x.ifBorrowed(0, 4));
        refusesWithFullRow("leastChange", x -> x.leastChange(4, 0, 1), x -> x.leastChange(0, 8, 1),
                x -> x.leastChange(0, 1, 8), x -> x.leastChange(0, 1, 1));
        Edge.refuses("append to a full buffer", Edge.NOT_NOW, Edge::fullBuffer, x -> x.append('0'));
        Edge.refuses("goBack to an empty slot", Edge.NOT_NOW, x -> x.mix(0, 0, 1), x -> x.goBack(0));
        Edge.refuses("undo without a state", Edge.NOT_NOW, x -> x.keep(0), x -> x.undo());
    }

    /** A state that is saved ahead of the exception would push the oldest one out. */
    private static void refusesWithFullRow(String name, Edge.On... calls) {
        Check.equal("saved states of a busy object", 6, Edge.made(Edge::busy).count(7));
        for (Edge.On call : calls) {
            PotLabels x = Edge.made(Edge::busy);
            boolean thrown = false;
            try {
                call.run(x);
            } catch (IndexOutOfBoundsException | IllegalArgumentException | IllegalStateException due) {
                thrown = true;
            }
            Check.isTrue(name + " throws", thrown);
            Check.isTrue(name + " changes nothing", Edge.story(x).equals(Edge.story(Edge.made(Edge::busy))));
        }
    }

    private static void firstOfSeveral() {
        Edge.On[] noSuch = {x -> x.mix(8, 3, 10), x -> x.mix(-1, -1, 0), x -> x.mix(8, 0, -1),
            x -> x.painter(4, 2, 0), x -> x.painter(-1, 0, 4), x -> x.painter(4, 1, 28), x -> x.label(8, 8),
            x -> x.label(-1, -2), x -> x.hang(8, 8), x -> x.hang(-1, -1), x -> x.potOf(8, 5), x -> x.potOf(-1, -1),
            x -> x.painterOf(4, 7), x -> x.painterOf(-1, -1), x -> x.chartOf(2, 3), x -> x.chartOf(-1, -1),
            x -> x.fewest(4, 2), x -> x.fewest(-1, -1), x -> x.leastChange(0, 8, 8), x -> x.leastChange(0, -1, -1),
            x -> x.leastChange(4, 0, 0), x -> x.leastChange(-1, 7, 7)};
        for (int i = 0; i < noSuch.length; i++) {
            Edge.refuses("the wrong call " + i, Edge.NO_SUCH, Edge::busy, noSuch[i]);
        }
        Edge.refuses("append(32) to a full buffer", Edge.WRONG, Edge::fullBuffer, x -> x.append(32));
        Edge.refuses("append(127) to a full buffer", Edge.WRONG, Edge::fullBuffer, x -> x.append(127));
        Edge.refuses("goBack(2) without snapshots", Edge.WRONG, x -> { }, x -> x.goBack(2));
        Edge.refuses("goBack(-1) without snapshots", Edge.WRONG, x -> { }, x -> x.goBack(-1));
    }

    /** The class says so too, ahead of these methods; and looks, and what would be, change nothing. */
    private static void interfaceSays(String source, String says, String... methods) {
        StringBuilder sentence = new StringBuilder("Ahead of the calls ");
        for (int i = 0; i < methods.length; i++) {
            sentence.append(i > 0 ? ", " : "").append('`').append(methods[i]).append('`');
        }
        sentence.append(" the interface says: ---- ").append(says);
        Sentences.test(Sentences.TERMS, sentence.toString(), () -> {
            Check.isTrue("methods behind it: " + methodsBehind(source, says),
                    methodsBehind(source, says).equals(List.of(methods)));
            for (String method : methods) {
                if (says.endsWith("nothing is changed")) {
                    looks(method);
                }
            }
        });
    }

    private static List<String> methodsBehind(String source, String heading) {
        List<String> names = new ArrayList<>();
        int start = source.indexOf("// ---- " + heading + "\n");
        int end = source.indexOf("// ---- ", start + 1);
        if (start >= 0) {
            Matcher head = Pattern.compile("\n    public \\w+ (\\w+)\\(")
                    .matcher(source.substring(start, end < 0 ? source.length() : end));
            while (head.find()) {
                names.add(head.group(1));
            }
        }
        return names;
    }

    private static void looks(String method) {
        for (int a = 0; a < 2; a++) {
            int i = a;
            Edge.changesNothing(method, Edge::busy, x -> look(x, method, i));
        }
    }

    private static void look(PotLabels x, String method, int i) {
        switch (method) {
            case "potOf": x.potOf(7, 3 + i); break;
            case "seen": x.seen(3, 7 - i); break;
            case "painterOf": x.painterOf(2, 4 + i); break;
            case "apart": x.apart(i, 0, 7); break;
            case "chartOf": x.chartOf(i, 2); break;
            case "count": x.count(3 + i); break;
            case "fewest": x.fewest(2, i); break;
            case "ifBorrowed": x.ifBorrowed(2, 2 + i); break;
            case "leastChange": x.leastChange(2, 3 + i, 7); break;
            case "bestPainter": x.bestPainter(); break;
            case "apartShare": x.apartShare(); break;
            case "digest": x.digest(); break;
            default: Check.isTrue("an unknown look " + method, false); break;
        }
    }

    /** The last calls of a long run answer as the first ones do. */
    private static void untilThe512thCall() {
        PotLabels x = Edge.made(y -> {
            for (int i = 0; i < 6; i++) {
                y.hang(0, 1);
            }
        });
        for (int call = 7; call <= 510; call++) {
            x.hang(0, 1);
        }
        Check.equal("the 511th call: what was refused", 504, x.count(6));
        Check.equal("the 512th call: states left", 5, x.undo());
        PotLabels y = new PotLabels();
        for (int pair = 1; pair <= 255; pair++) {
            y.append('~');
            y.clearBuffer();
        }
        Check.equal("the 511th call: append", 1, y.append('~'));
        Check.equal("the 512th call: the first error", 0, y.firstError());
    }
}
