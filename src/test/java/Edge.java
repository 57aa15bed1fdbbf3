/** What the tests of sentences use beside Check: numbers next to a range's ends, busy objects, twins. */
final class Edge {
    static final Class<IndexOutOfBoundsException> NO_SUCH = IndexOutOfBoundsException.class;
    static final Class<IllegalArgumentException> WRONG = IllegalArgumentException.class;
    static final Class<IllegalStateException> NOT_NOW = IllegalStateException.class;

    /** Eight pots, which the painters 0 to 3 tell apart in 28, 26, 24 and 22 pairs. */
    static final String UNLIKE = "0=000;1=900;2=090;3=009;4=990;5=909;6=099;7=999";
    /** A text that fills the buffer but for one place. */
    static final String TEN_POTS = "0=001;1=002;2=003;3=004;4=005;5=006;6=007;7=008;0=129;1=345";

    /** A call of one object. */
    interface On {
        void run(PotLabels x);
    }

    /** A call of one object with a number that is tried. */
    interface With {
        void run(PotLabels x, int number);
    }

    private Edge() {
    }

    static PotLabels made(On prepare) {
        PotLabels x = new PotLabels();
        prepare.run(x);
        return x;
    }

    static On both(On first, On second) {
        return x -> {
            first.run(x);
            second.run(x);
        };
    }

    /** A new object with these pots, and one saved state. */
    static PotLabels pots(String text) {
        return made(x -> Check.pots(x, text));
    }

    /** Nothing of it is as in a new object: two charts, both slots, six saved states, a text that is begun. */
    static void busy(PotLabels x) {
        Check.pots(x, "0=125;1=900;2=090;3=009;4=990;5=909;6=099;7=998");
        x.label(0, 7);
        x.label(7, 0);
        x.keep(0);
        x.painter(3, 1, 0);
        x.borrow(2, 1);
        x.borrow(1, 0);
        x.hang(0, 7);
        x.hang(7, 0);
        x.hang(3, 4);
        x.keep(1);
        x.takeDown(1);
        x.label(3, 3);
        x.painter(0, 1, 27);
        x.correct(0, 0);
        x.correct(1, 3);
        x.mix(5, 1, 4);
        Check.type(x, "3=12");
    }

    /** Six charts, of the pots 0 to 5 on the pot 7, and one saved state. */
    static void sixCharts(PotLabels x) {
        for (int figure = 0; figure < 6; figure++) {
            x.hang(figure, 7);
        }
        x.keep(0);
        for (int i = 0; i < 6; i++) {
            x.undo();
        }
        x.goBack(0);
    }

    static void fullBuffer(PotLabels x) {
        Check.type(x, TEN_POTS + ";");
    }

    /** Numbers that are out of a range: next to its ends, and far off. */
    static int[] outside(int least, int most) {
        return new int[] {least - 1, most + 1, least - 2, most + 2, least - 256, least + 256, least + 65536,
            Integer.MIN_VALUE, Integer.MIN_VALUE + 1, Integer.MAX_VALUE, Integer.MAX_VALUE - 1};
    }

    /** The call throws just what is due, and an object behind it is like one without the call. */
    static void refuses(String name, Class<? extends RuntimeException> want, On prepare, On call) {
        PotLabels x = made(prepare);
        Check.throwing(name, want, () -> call.run(x));
        Check.isTrue(name + " changes nothing", story(x).equals(story(made(prepare))));
    }

    static void refusesOutside(String name, Class<? extends RuntimeException> want, int least, int most, With call) {
        refusesOutside(name, want, least, most, Edge::busy, call);
    }

    static void refusesOutside(String name, Class<? extends RuntimeException> want, int least, int most, On prepare,
            With call) {
        for (int number : outside(least, most)) {
            refuses(name + " of " + number, want, prepare, x -> call.run(x, number));
        }
    }

    static void takes(String name, int least, int most, With call) {
        for (int number = least; number <= most; number++) {
            int now = number;
            PotLabels x = made(Edge::busy);
            Check.throwing(name + " of " + number, null, () -> call.run(x, now));
        }
    }

    /** An object behind the call, which throws nothing, is like one without it. */
    static void changesNothing(String name, On prepare, On call) {
        refuses(name, null, prepare, call);
    }

    /** All that can be told of an object: it, its saved states and its snapshots. The object is used up. */
    static String story(PotLabels x) {
        StringBuilder story = new StringBuilder();
        story.append(x.digest());
        while (x.count(7) > 0) {
            story.append(' ').append(x.undo()).append(' ').append(x.digest());
        }
        for (int slot = 0; slot < 2; slot++) {
            try {
                story.append(" slot ").append(x.goBack(slot)).append(' ').append(x.digest());
            } catch (IllegalStateException thrown) {
                story.append(" none");
            }
        }
        return story.toString();
    }

    /**
     * The call saves one state more, six at most, and undo restores what was. What is prepared saves
     * five states at most.
     */
    static void undoable(String name, On prepare, On call) {
        PotLabels x = made(prepare);
        long before = x.digest();
        int saved = x.count(7);
        Check.isTrue(name + " has room for a state", saved <= 5);
        call.run(x);
        Check.equal(name + ", saved states", saved + 1, x.count(7));
        Check.equal(name + ", states behind undo", saved, x.undo());
        Check.equal(name + ", the digest behind undo", before, x.digest());

        PotLabels full = made(prepare);
        saveUpTo(full, 6);
        call.run(full);
        Check.equal(name + ", saved states of a full row", 6, full.count(7));
        Check.equal(name + ", states of a full row behind undo", 5, full.undo());
        PotLabels twin = made(prepare);
        saveUpTo(twin, 5);
        Check.equal(name + ", the digest of a full row behind undo", twin.digest(), full.digest());
    }

    /** Calls that change nothing, until so many states are saved. */
    static void saveUpTo(PotLabels x, int states) {
        for (int i = x.count(7); i < states; i++) {
            x.mix(0, 0, x.potOf(0, 0));
        }
    }

    /** The labels of all pots, "-" for none. */
    static String labels(PotLabels x) {
        StringBuilder labels = new StringBuilder();
        for (int pot = 0; pot < 8; pot++) {
            int label = x.potOf(pot, 3);
            labels.append(label < 0 ? "-" : Integer.toString(label));
        }
        return labels.toString();
    }

    static void labels(PotLabels x, String want) {
        Check.isTrue("the labels are " + labels(x) + ", due are " + want, want.equals(labels(x)));
    }

    /** The figure and the ground of each chart, one after the other. */
    static String charts(PotLabels x) {
        StringBuilder charts = new StringBuilder();
        for (int chart = 0; chart < x.count(2); chart++) {
            charts.append(charts.length() > 0 ? " " : "").append(x.chartOf(chart, 0)).append(x.chartOf(chart, 1));
        }
        return charts.toString();
    }

    static void charts(PotLabels x, String want) {
        Check.isTrue("the charts are " + charts(x) + ", due are " + want, want.equals(charts(x)));
    }

    /** The colours of all pots, each as three digits. */
    static String colours(PotLabels x) {
        StringBuilder colours = new StringBuilder();
        for (int pot = 0; pot < 8; pot++) {
            colours.append(pot > 0 ? " " : "").append(x.potOf(pot, 0)).append(x.potOf(pot, 1)).append(x.potOf(pot, 2));
        }
        return colours.toString();
    }

    static void colours(PotLabels x, String want) {
        Check.isTrue("the colours are " + colours(x) + ", due are " + want, want.equals(colours(x)));
    }

    /** Kind, sharpness and lender of each painter, "-" for nobody. */
    static String painters(PotLabels x) {
        StringBuilder painters = new StringBuilder();
        for (int painter = 0; painter < 4; painter++) {
            int lender = x.painterOf(painter, 2);
            painters.append(painter > 0 ? " " : "").append(x.painterOf(painter, 0)).append('/')
                    .append(x.painterOf(painter, 1)).append('/').append(lender < 0 ? "-" : Integer.toString(lender));
        }
        return painters.toString();
    }

    static void painters(PotLabels x, String want) {
        Check.isTrue("the painters are " + painters(x) + ", due are " + want, want.equals(painters(x)));
    }
}
