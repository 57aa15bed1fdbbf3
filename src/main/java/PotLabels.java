/**
 * A bureau of painters who do not see all colours, with pots, labels and charts.
 *
 * <p>Everything a call needs is made in the constructor and used again: a call makes no object
 * but the exception that it may throw.
 */
public final class PotLabels {
    /** There is nothing to return. */
    public static final int NONE = -1;

    private static final int POTS = 8;
    private static final int PAINTERS = 4;
    private static final int KINDS = 4;
    private static final int CHARTS = 6;
    private static final int SLOTS = 2;
    private static final int SAVED_STATES = 6;
    private static final int BUFFER_CODES = 60;

    private static final int PARTS = 3;
    private static final int MOST_OF_PART = 9;
    private static final int COLOURS = 1000;
    private static final int MOST_SHARPNESS = PARTS * MOST_OF_PART;
    private static final int FIRST_SHARPNESS = 3;

    private static final int SETS_OF_POTS = 1 << POTS;
    private static final int PAIRS_OF_ALL_PAINTERS = 112;
    private static final int HASH_START = 3677;

    private final Bureau bureau = new Bureau();
    private final Memory memory = new Memory();
    private final Text text = new Text();
    private final Labelling labelling = new Labelling();

    public PotLabels() {
    }

    // ---- pots, painters

    public int mix(int pot, int part, int value) throws IndexOutOfBoundsException, IllegalArgumentException {
        needPot(pot);
        needWithin(part, 0, PARTS - 1);
        needWithin(value, 0, MOST_OF_PART);
        memory.save(bureau);
        int before = Colours.partOf(bureau.colours[pot], part);
        bureau.colours[pot] = Colours.withPart(bureau.colours[pot], part, value);
        return before;
    }

    public int painter(int painter, int what, int value) throws IndexOutOfBoundsException, IllegalArgumentException {
        needPainter(painter);
        needWithin(what, 0, 1);
        needWithin(value, 0, what == 0 ? KINDS - 1 : MOST_SHARPNESS);
        memory.save(bureau);
        int[] row = what == 0 ? bureau.kinds : bureau.sharpnesses;
        int before = row[painter];
        row[painter] = value;
        return before;
    }

    public int borrow(int painter, int lender) throws IndexOutOfBoundsException {
        needPainter(painter);
        needPainter(lender);
        memory.save(bureau);
        int before = bureau.lenders[painter];
        bureau.lenders[painter] = lender == painter ? NONE : lender;
        return before;
    }

    // ---- labels, charts

    public int label(int pot, int label) throws IndexOutOfBoundsException, IllegalArgumentException {
        needPot(pot);
        needWithin(label, NONE, POTS - 1);
        memory.save(bureau);
        int before = bureau.labels[pot];
        bureau.labels[pot] = label;
        return before;
    }

    public int labelAll(int painter) throws IndexOutOfBoundsException {
        needPainter(painter);
        memory.save(bureau);
        bureau.labelInOrder(painter);
        return bureau.unlikeLabels();
    }

    public int hang(int figure, int ground) throws IndexOutOfBoundsException, IllegalArgumentException {
        needPot(figure);
        needPot(ground);
        needUnlike(figure, ground);
        memory.save(bureau);
        return bureau.addChart(figure, ground);
    }

    public int takeDown(int chart) throws IndexOutOfBoundsException {
        needChart(chart);
        memory.save(bureau);
        int readers = Integer.bitCount(bureau.readersOf(chart));
        bureau.removeChart(chart);
        return readers;
    }

    public int correct(int chart, int painter) throws IndexOutOfBoundsException {
        needChart(chart);
        needPainter(painter);
        memory.save(bureau);
        return bureau.makeReadable(chart, painter);
    }

    // ---- texts, snapshots

    public int append(int code) throws IllegalArgumentException, IllegalStateException {
        needWithin(code, 33, 126);
        if (text.isFull()) {
            throw new IllegalStateException("the buffer is full");
        }
        text.add(code);
        return text.length;
    }

    public int clearBuffer() {
        int before = text.length;
        text.clear();
        return before;
    }

    public int firstError() {
        return text.firstWrong();
    }

    public int load() throws IllegalArgumentException {
        if (!text.tellsPots()) {
            throw new IllegalArgumentException("the buffer does not tell pots as a text");
        }
        memory.save(bureau);
        text.giveColours(bureau);
        text.clear();
        return bureau.pairsTold(0, bureau.lenders[0]);
    }

    public int keep(int slot) throws IllegalArgumentException {
        needWithin(slot, 0, SLOTS - 1);
        memory.slots[slot].copyFrom(bureau);
        memory.filled[slot] = true;
        return bureau.labelled();
    }

    public int goBack(int slot) throws IllegalArgumentException, IllegalStateException {
        needWithin(slot, 0, SLOTS - 1);
        if (!memory.filled[slot]) {
            throw new IllegalStateException("there is no snapshot in the slot");
        }
        memory.save(bureau);
        bureau.copyFrom(memory.slots[slot]);
        return bureau.labelled();
    }

    public int undo() throws IllegalStateException {
        if (memory.held <= 0) {
            throw new IllegalStateException("there is no saved state");
        }
        memory.restore(bureau);
        return memory.held;
    }

    // ---- looks; nothing is changed

    public int potOf(int pot, int what) throws IndexOutOfBoundsException, IllegalArgumentException {
        needPot(pot);
        needWithin(what, 0, PARTS + 1);
        if (what < PARTS) {
            return Colours.partOf(bureau.colours[pot], what);
        }
        return what == PARTS ? bureau.labels[pot] : bureau.tellersOf(pot);
    }

    public int seen(int painter, int pot) throws IndexOutOfBoundsException {
        needPainter(painter);
        needPot(pot);
        return Colours.seenAs(bureau.kinds[painter], bureau.colours[pot]);
    }

    public int painterOf(int painter, int what) throws IndexOutOfBoundsException, IllegalArgumentException {
        needPainter(painter);
        switch (what) {
            case 0:
                return bureau.kinds[painter];
            case 1:
                return bureau.sharpnesses[painter];
            case 2:
                return bureau.lenders[painter];
            case 3:
                return bureau.pairsTold(painter, bureau.lenders[painter]);
            case 4:
                return bureau.wrongPairs(painter);
            case 5:
                return bureau.wrongPairs(painter) == 0 ? 1 : 0;
            case 6:
                return bureau.chartsRead(painter);
            default:
                throw new IllegalArgumentException("a painter has the numbers 0 to 6");
        }
    }

    public int apart(int painter, int pot, int other) throws IndexOutOfBoundsException {
        needPainter(painter);
        needPot(pot);
        needPot(other);
        return bureau.tells(painter, pot, other) ? 1 : 0;
    }

    public int chartOf(int chart, int what) throws IndexOutOfBoundsException, IllegalArgumentException {
        needChart(chart);
        switch (what) {
            case 0:
                return bureau.figures[chart];
            case 1:
                return bureau.grounds[chart];
            case 2:
                return bureau.readersOf(chart);
            default:
                throw new IllegalArgumentException("a chart has the numbers 0 to 2");
        }
    }

    public int count(int what) throws IllegalArgumentException {
        switch (what) {
            case 0:
                return bureau.labelled();
            case 1:
                return bureau.unlikeLabels();
            case 2:
                return bureau.charts;
            case 3:
                return bureau.pairsToldByNobody();
            case 4:
                return bureau.paintersServed();
            case 5:
                return bureau.corrections;
            case 6:
                return bureau.refusals;
            case 7:
                return memory.held;
            default:
                throw new IllegalArgumentException("there are the numbers 0 to 7");
        }
    }

    // ---- what would be; nothing is changed

    public int fewest(int painter, int what) throws IndexOutOfBoundsException, IllegalArgumentException {
        needPainter(painter);
        needWithin(what, 0, 1);
        labelling.look(bureau, painter);
        return what == 0 ? labelling.fewestBySets() : labelling.fewestByTrying();
    }

    public int ifBorrowed(int painter, int lender) throws IndexOutOfBoundsException {
        needPainter(painter);
        needPainter(lender);
        // A painter who looks with the own eyes twice tells no more apart than without borrowed ones.
        return bureau.pairsTold(painter, lender);
    }

    public int leastChange(int painter, int pot, int other) throws IndexOutOfBoundsException, IllegalArgumentException {
        needPainter(painter);
        needPot(pot);
        needPot(other);
        needUnlike(pot, other);
        int nearest = bureau.nearestColour(painter, pot, other);
        return nearest == NONE ? NONE : Colours.change(bureau.colours[pot], nearest);
    }

    public int bestPainter() {
        int best = 0;
        int most = NONE;
        for (int painter = 0; painter < PAINTERS; painter++) {
            int pairs = bureau.pairsTold(painter, bureau.lenders[painter]);
            if (pairs > most) {
                best = painter;
                most = pairs;
            }
        }
        return best;
    }

    public double apartShare() {
        int pairs = 0;
        for (int painter = 0; painter < PAINTERS; painter++) {
            pairs += bureau.pairsTold(painter, bureau.lenders[painter]);
        }
        return (double) pairs / (double) PAIRS_OF_ALL_PAINTERS;
    }

    public long digest() {
        long hash = HASH_START;
        for (int what = 0; what <= 7; what++) {
            hash = hashed(hash, count(what));
        }
        hash = hashOfPots(hash);
        hash = hashOfPainters(hash);
        hash = hashOfCharts(hash);
        hash = hashed(hash, bestPainter());
        hash = hashed(hash, bitsOfShare(apartShare()));
        for (int slot = 0; slot < SLOTS; slot++) {
            hash = hashed(hash, memory.filled[slot] ? 1 : 0);
        }
        return hashOfText(hash);
    }

    private long hashOfPots(long start) {
        long hash = start;
        for (int pot = 0; pot < POTS; pot++) {
            for (int what = 0; what <= 4; what++) {
                hash = hashed(hash, potOf(pot, what));
            }
        }
        return hash;
    }

    private long hashOfPainters(long start) {
        long hash = start;
        for (int painter = 0; painter < PAINTERS; painter++) {
            for (int what = 0; what <= 6; what++) {
                hash = hashed(hash, painterOf(painter, what));
            }
            for (int pot = 0; pot < POTS; pot++) {
                hash = hashed(hash, seen(painter, pot));
            }
            hash = hashed(hash, fewest(painter, 0));
            hash = hashed(hash, fewest(painter, 1));
            for (int lender = 0; lender < PAINTERS; lender++) {
                hash = hashed(hash, ifBorrowed(painter, lender));
            }
            hash = hashed(hash, leastChange(painter, 0, POTS - 1));
            hash = hashed(hash, leastChange(painter, POTS - 1, 0));
        }
        return hash;
    }

    private long hashOfCharts(long start) {
        long hash = start;
        for (int chart = 0; chart < bureau.charts; chart++) {
            for (int what = 0; what <= 2; what++) {
                hash = hashed(hash, chartOf(chart, what));
            }
        }
        return hash;
    }

    private long hashOfText(long start) {
        long hash = hashed(start, text.length);
        for (int place = 0; place < text.length && place < BUFFER_CODES; place++) {
            hash = hashed(hash, text.codes[place]);
        }
        return hash;
    }

    private static long hashed(long hash, long value) {
        return 31 * hash + value;
    }

    /**
     * The bits of a share of 0 to 1, put together by hand, as LANGUAGE.md leaves out
     * Double.doubleToLongBits. Doubling, taking 1 away and the product are all exact here.
     */
    private static long bitsOfShare(double share) {
        if (share <= 0.0) {
            return 0L;
        }
        double scaled = share;
        long exponent = 1023L;
        for (int step = 0; step < 1022 && scaled < 1.0; step++) {
            scaled = scaled * 2.0;
            exponent--;
        }
        return (exponent << 52) + (long) ((scaled - 1.0) * (double) (1L << 52));
    }

    // ---- what a call needs of its arguments

    private static void needPot(int pot) {
        if (pot < 0 || pot >= POTS) {
            throw new IndexOutOfBoundsException("there is no such pot");
        }
    }

    private static void needPainter(int painter) {
        if (painter < 0 || painter >= PAINTERS) {
            throw new IndexOutOfBoundsException("there is no such painter");
        }
    }

    private void needChart(int chart) {
        if (chart < 0 || chart >= bureau.charts) {
            throw new IndexOutOfBoundsException("there is no such chart");
        }
    }

    private static void needWithin(int value, int least, int most) {
        if (value < least || value > most) {
            throw new IllegalArgumentException("an argument is out of its range");
        }
    }

    private static void needUnlike(int pot, int other) {
        if (pot == other) {
            throw new IllegalArgumentException("both pots are the same");
        }
    }

    /**
     * A colour is one number, 100 times its red, 10 times its green, and its blue, together: so
     * colours in the order of their numbers are in the order of red, green and blue.
     */
    private static final class Colours {
        static int partOf(int colour, int part) {
            switch (part) {
                case 0:
                    return colour / 100;
                case 1:
                    return colour / 10 % 10;
                default:
                    return colour % 10;
            }
        }

        static int withPart(int colour, int part, int value) {
            int weight = part == 0 ? 100 : part == 1 ? 10 : 1;
            return colour + (value - partOf(colour, part)) * weight;
        }

        static int seenAs(int kind, int colour) {
            int red = colour / 100;
            int green = colour / 10 % 10;
            int blue = colour % 10;
            switch (kind) {
                case 1:
                    return 110 * ((red + green) / 2) + blue;
                case 2:
                    return 100 * red + 10 * green;
                case 3:
                    return 111 * ((red + green + blue) / 3);
                default:
                    return colour;
            }
        }

        /** How far apart two colours are by eyes of a kind. */
        static int distance(int kind, int colour, int other) {
            int one = seenAs(kind, colour);
            int two = seenAs(kind, other);
            return Math.abs(one / 100 - two / 100)
                    + Math.abs(one / 10 % 10 - two / 10 % 10)
                    + Math.abs(one % 10 - two % 10);
        }

        /** By how much a colour is changed: eyes of the kind 0 see each as it is. */
        static int change(int colour, int other) {
            return distance(0, colour, other);
        }
    }

    /** The state that snapshots and undo restore: pots, painters, charts and what is counted so far. */
    private static final class Bureau {
        private final int[] colours = new int[POTS];
        private final int[] labels = new int[POTS];
        private final int[] kinds = new int[PAINTERS];
        private final int[] sharpnesses = new int[PAINTERS];
        private final int[] lenders = new int[PAINTERS];
        private final int[] figures = new int[CHARTS];
        private final int[] grounds = new int[CHARTS];
        private int charts;
        private int corrections;
        private int refusals;

        Bureau() {
            for (int pot = 0; pot < POTS; pot++) {
                labels[pot] = NONE;
            }
            for (int painter = 0; painter < PAINTERS; painter++) {
                kinds[painter] = painter;
                sharpnesses[painter] = FIRST_SHARPNESS;
                lenders[painter] = NONE;
            }
        }

        void copyFrom(Bureau other) {
            System.arraycopy(other.colours, 0, colours, 0, POTS);
            System.arraycopy(other.labels, 0, labels, 0, POTS);
            System.arraycopy(other.kinds, 0, kinds, 0, PAINTERS);
            System.arraycopy(other.sharpnesses, 0, sharpnesses, 0, PAINTERS);
            System.arraycopy(other.lenders, 0, lenders, 0, PAINTERS);
            System.arraycopy(other.figures, 0, figures, 0, CHARTS);
            System.arraycopy(other.grounds, 0, grounds, 0, CHARTS);
            charts = other.charts;
            corrections = other.corrections;
            refusals = other.refusals;
        }

        boolean tells(int painter, int pot, int other) {
            return tellsColours(painter, lenders[painter], colours[pot], colours[other]);
        }

        private boolean tellsColours(int painter, int lender, int colour, int other) {
            int sharpness = sharpnesses[painter];
            if (Colours.distance(kinds[painter], colour, other) > sharpness) {
                return true;
            }
            return lender != NONE && Colours.distance(kinds[lender], colour, other) > sharpness;
        }

        int pairsTold(int painter, int lender) {
            int pairs = 0;
            for (int pot = 0; pot < POTS; pot++) {
                for (int other = pot + 1; other < POTS; other++) {
                    if (tellsColours(painter, lender, colours[pot], colours[other])) {
                        pairs++;
                    }
                }
            }
            return pairs;
        }

        int pairsToldByNobody() {
            int pairs = 0;
            for (int pot = 0; pot < POTS; pot++) {
                for (int other = pot + 1; other < POTS; other++) {
                    if (tellersOfPair(pot, other) == 0) {
                        pairs++;
                    }
                }
            }
            return pairs;
        }

        /** The painters who tell two pots apart, as a mask. */
        private int tellersOfPair(int pot, int other) {
            int mask = 0;
            for (int painter = 0; painter < PAINTERS; painter++) {
                if (tellsColours(painter, lenders[painter], colours[pot], colours[other])) {
                    mask |= 1 << painter;
                }
            }
            return mask;
        }

        /** The painters who tell a pot apart from some other pot, as a mask. */
        int tellersOf(int pot) {
            int mask = 0;
            for (int other = 0; other < POTS; other++) {
                mask |= tellersOfPair(pot, other);
            }
            return mask;
        }

        int labelled() {
            int pots = 0;
            for (int pot = 0; pot < POTS; pot++) {
                if (labels[pot] != NONE) {
                    pots++;
                }
            }
            return pots;
        }

        int unlikeLabels() {
            int mask = 0;
            for (int pot = 0; pot < POTS; pot++) {
                if (labels[pot] != NONE) {
                    mask |= 1 << labels[pot];
                }
            }
            return Integer.bitCount(mask);
        }

        /** Pairs of pots that the painter tells apart and whose labels are alike. */
        int wrongPairs(int painter) {
            int pairs = 0;
            for (int pot = 0; pot < POTS; pot++) {
                for (int other = pot + 1; other < POTS; other++) {
                    if (labels[pot] != NONE && labels[pot] == labels[other] && tells(painter, pot, other)) {
                        pairs++;
                    }
                }
            }
            return pairs;
        }

        /** The painters for whom the labels are right. */
        int paintersServed() {
            int painters = 0;
            for (int painter = 0; painter < PAINTERS; painter++) {
                if (wrongPairs(painter) == 0) {
                    painters++;
                }
            }
            return painters;
        }

        void labelInOrder(int painter) {
            for (int pot = 0; pot < POTS; pot++) {
                int barred = 0;
                for (int ahead = 0; ahead < pot; ahead++) {
                    if (tells(painter, ahead, pot)) {
                        barred |= 1 << labels[ahead];
                    }
                }
                labels[pot] = leastOutside(barred);
            }
        }

        private static int leastOutside(int barred) {
            int label = 0;
            while (label < POTS - 1 && (barred >> label & 1) != 0) {
                label++;
            }
            return label;
        }

        int addChart(int figure, int ground) {
            if (charts >= CHARTS) {
                refusals++;
                return NONE;
            }
            figures[charts] = figure;
            grounds[charts] = ground;
            charts++;
            return charts - 1;
        }

        void removeChart(int chart) {
            for (int behind = chart + 1; behind < charts; behind++) {
                figures[behind - 1] = figures[behind];
                grounds[behind - 1] = grounds[behind];
            }
            charts--;
        }

        /** The painters who read a chart, as a mask. */
        int readersOf(int chart) {
            return tellersOfPair(figures[chart], grounds[chart]);
        }

        int chartsRead(int painter) {
            int read = 0;
            for (int chart = 0; chart < charts; chart++) {
                if (tells(painter, figures[chart], grounds[chart])) {
                    read++;
                }
            }
            return read;
        }

        int makeReadable(int chart, int painter) {
            int figure = figures[chart];
            int nearest = nearestColour(painter, figure, grounds[chart]);
            if (nearest == NONE) {
                refusals++;
                return NONE;
            }
            int change = Colours.change(colours[figure], nearest);
            if (change > 0) {
                colours[figure] = nearest;
                corrections++;
            }
            return change;
        }

        /**
         * The colour nearest to that of the pot which the painter tells apart from the other pot;
         * NONE if there is none. Of several that are as near the first one stands, which has the
         * least red, then the least green, then the least blue.
         */
        int nearestColour(int painter, int pot, int other) {
            int nearest = NONE;
            int least = PARTS * MOST_OF_PART + 1;
            for (int colour = 0; colour < COLOURS; colour++) {
                int change = Colours.change(colours[pot], colour);
                if (change < least && tellsColours(painter, lenders[painter], colour, colours[other])) {
                    nearest = colour;
                    least = change;
                }
            }
            return nearest;
        }
    }

    /** Slots and saved states. */
    private static final class Memory {
        private final Bureau[] slots = new Bureau[SLOTS];
        private final boolean[] filled = new boolean[SLOTS];
        private final Bureau[] saved = new Bureau[SAVED_STATES];
        private int held;

        Memory() {
            for (int slot = 0; slot < SLOTS; slot++) {
                slots[slot] = new Bureau();
            }
            for (int place = 0; place < SAVED_STATES; place++) {
                saved[place] = new Bureau();
            }
        }

        void save(Bureau bureau) {
            if (held >= SAVED_STATES) {
                dropOldest();
            }
            saved[held].copyFrom(bureau);
            held++;
        }

        /** The object of the oldest state goes behind the others, to be used again. */
        private void dropOldest() {
            Bureau oldest = saved[0];
            for (int place = 1; place < SAVED_STATES; place++) {
                saved[place - 1] = saved[place];
            }
            saved[SAVED_STATES - 1] = oldest;
            held = SAVED_STATES - 1;
        }

        void restore(Bureau bureau) {
            if (held > 0) {
                held--;
                bureau.copyFrom(saved[held]);
            }
        }
    }

    /** The buffer, whose pots take six places each: digit, "=", three digits, and ";" ahead of the next one. */
    private static final class Text {
        private static final int PLACES_OF_POT = 6;

        private final int[] codes = new int[BUFFER_CODES];
        private int length;

        boolean isFull() {
            return length >= BUFFER_CODES;
        }

        void add(int code) {
            if (length < BUFFER_CODES) {
                codes[length] = code;
                length++;
            }
        }

        void clear() {
            length = 0;
        }

        int firstWrong() {
            for (int place = 0; place < length && place < BUFFER_CODES; place++) {
                if (!fits(place % PLACES_OF_POT, codes[place])) {
                    return place;
                }
            }
            return length;
        }

        private static boolean fits(int placeOfPot, int code) {
            switch (placeOfPot) {
                case 0:
                    return code >= '0' && code < '0' + POTS;
                case 1:
                    return code == '=';
                case 5:
                    return code == ';';
                default:
                    return code >= '0' && code <= '9';
            }
        }

        /** Whether the buffer holds a whole text, which ends behind the digits of a pot. */
        boolean tellsPots() {
            return length % PLACES_OF_POT == PLACES_OF_POT - 1 && firstWrong() == length;
        }

        void giveColours(Bureau bureau) {
            for (int place = 0; place + 4 < length && place + 4 < BUFFER_CODES; place += PLACES_OF_POT) {
                int pot = codes[place] - '0';
                if (pot >= 0 && pot < POTS) {
                    bureau.colours[pot] = 100 * (codes[place + 2] - '0') + 10 * (codes[place + 3] - '0')
                            + (codes[place + 4] - '0');
                }
            }
        }
    }

    /** Finds the fewest labels of a painter; sets of pots are masks with the bit p for the pot p. */
    private static final class Labelling {
        private final int[] rivals = new int[POTS];
        /** Sets of pots no two of which are told apart. */
        private final boolean[] peaceful = new boolean[SETS_OF_POTS];
        private final int[] needs = new int[SETS_OF_POTS];
        /** For each label the pots that bear it while labels are tried; none before and behind that. */
        private final int[] bearers = new int[POTS];

        /** Notes for each pot those that the painter tells apart from it. */
        void look(Bureau bureau, int painter) {
            for (int pot = 0; pot < POTS; pot++) {
                rivals[pot] = 0;
                for (int other = 0; other < POTS; other++) {
                    if (bureau.tells(painter, pot, other)) {
                        rivals[pot] |= 1 << other;
                    }
                }
            }
        }

        int fewestBySets() {
            peaceful[0] = true;
            needs[0] = 0;
            for (int pot = 0; pot < POTS; pot++) {
                int highest = 1 << pot;
                for (int lower = 0; lower < highest; lower++) {
                    peaceful[highest | lower] = peaceful[lower] && (rivals[pot] & lower) == 0;
                    needs[highest | lower] = needOf(highest, lower);
                }
            }
            return needs[SETS_OF_POTS - 1];
        }

        /**
         * The fewest labels of a set, given as its highest pot and those lower, whose sets are
         * known. Some set that is taken out holds the highest pot: to try those is enough.
         */
        private int needOf(int highest, int lower) {
            int fewest = POTS;
            for (int taken = 0; taken <= lower; taken++) {
                if ((taken & lower) == taken && peaceful[highest | taken]) {
                    fewest = Math.min(fewest, needs[lower ^ taken] + 1);
                }
            }
            return fewest;
        }

        int fewestByTrying() {
            return fewestFrom(rivals, bearers, 0, 0, POTS);
        }

        /**
         * The fewest labels with which the pots from this one on can be labelled, if those ahead
         * bear the labels below used; known, if they would not be fewer than those known.
         */
        private static int fewestFrom(int[] rivals, int[] bearers, int pot, int used, int known) {
            if (used >= known) {
                return known;
            }
            if (pot >= POTS) {
                return used;
            }
            int fewest = known;
            for (int label = 0; label <= used && label < POTS; label++) {
                if ((bearers[label] & rivals[pot]) == 0) {
                    bearers[label] |= 1 << pot;
                    int usedThen = label == used ? used + 1 : used;
                    fewest = fewestFrom(rivals, bearers, pot + 1, usedThen, fewest);
                    bearers[label] &= ~(1 << pot);
                }
            }
            return fewest;
        }
    }
}
