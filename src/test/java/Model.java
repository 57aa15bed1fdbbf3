import java.util.ArrayList;
import java.util.Arrays;
import java.util.HashSet;
import java.util.List;
import java.util.Set;
import java.util.regex.Matcher;
import java.util.regex.Pattern;

/** The document once more, held in another way than in PotLabels and without a thought of room. */
final class Model {
    private static final Pattern POTS = Pattern.compile("[0-7]=[0-9]{3}(;[0-7]=[0-9]{3})*");

    /** All that snapshots hold; copied whole before each change. */
    private static final class State {
        int[][] pots = new int[8][3];
        int[] labels = {-1, -1, -1, -1, -1, -1, -1, -1};
        int[][] painters = {{0, 3, 0}, {1, 3, 1}, {2, 3, 2}, {3, 3, 3}};
        List<int[]> charts = new ArrayList<>();
        int corrections;
        int refusals;

        State copy() {
            State copy = new State();
            for (int i = 0; i < 8; i++) {
                copy.pots[i] = pots[i].clone();
            }
            for (int i = 0; i < 4; i++) {
                copy.painters[i] = painters[i].clone();
            }
            copy.labels = labels.clone();
            copy.charts = new ArrayList<>(charts);
            copy.corrections = corrections;
            copy.refusals = refusals;
            return copy;
        }
    }

    private State now = new State();
    private final List<State> saved = new ArrayList<>();
    private final State[] slots = new State[2];
    private String buffer = "";

    private void save() {
        saved.add(now.copy());
        if (saved.size() > 6) {
            saved.remove(0);
        }
    }

    private static void index(boolean holds) {
        if (!holds) {
            throw new IndexOutOfBoundsException();
        }
    }

    private static void argument(boolean holds) {
        if (!holds) {
            throw new IllegalArgumentException();
        }
    }

    private static void state(boolean holds) {
        if (!holds) {
            throw new IllegalStateException();
        }
    }

    private static boolean in(int value, int least, int most) {
        return value >= least && value <= most;
    }

    private static void needPot(int pot) {
        index(in(pot, 0, 7));
    }

    private static void needPainter(int painter) {
        index(in(painter, 0, 3));
    }

    private void needChart(int chart) {
        index(in(chart, 0, now.charts.size() - 1));
    }

    private static int[] look(int kind, int[] c) {
        int half = (c[0] + c[1]) / 2;
        int third = (c[0] + c[1] + c[2]) / 3;
        int[][] looks = {c, {half, half, c[2]}, {c[0], c[1], 0}, {third, third, third}};
        return looks[kind];
    }

    private static int sum(int[] a, int[] b) {
        int sum = 0;
        for (int i = 0; i < 3; i++) {
            sum += a[i] > b[i] ? a[i] - b[i] : b[i] - a[i];
        }
        return sum;
    }

    private boolean tells(int painter, int lender, int[] a, int[] b) {
        int own = now.painters[painter][0];
        int other = now.painters[lender][0];
        int farthest = Math.max(sum(look(own, a), look(own, b)), sum(look(other, a), look(other, b)));
        return farthest > now.painters[painter][1];
    }

    private boolean tells(int painter, int pot, int other) {
        return tells(painter, now.painters[painter][2], now.pots[pot], now.pots[other]);
    }

    int mix(int pot, int part, int value) {
        needPot(pot);
        argument(in(part, 0, 2) && in(value, 0, 9));
        save();
        int before = now.pots[pot][part];
        now.pots[pot][part] = value;
        return before;
    }

    int painter(int painter, int what, int value) {
        needPainter(painter);
        argument(what == 0 && in(value, 0, 3) || what == 1 && in(value, 0, 27));
        save();
        int before = now.painters[painter][what];
        now.painters[painter][what] = value;
        return before;
    }

    int borrow(int painter, int lender) {
        needPainter(painter);
        needPainter(lender);
        save();
        int before = painterOf(painter, 2);
        now.painters[painter][2] = lender;
        return before;
    }

    int label(int pot, int label) {
        needPot(pot);
        argument(in(label, -1, 7));
        save();
        int before = now.labels[pot];
        now.labels[pot] = label;
        return before;
    }

    int labelAll(int painter) {
        needPainter(painter);
        save();
        for (int pot = 0; pot < 8; pot++) {
            Set<Integer> barred = new HashSet<>();
            for (int ahead = 0; ahead < pot; ahead++) {
                if (tells(painter, pot, ahead)) {
                    barred.add(now.labels[ahead]);
                }
            }
            int label = 0;
            while (barred.contains(label)) {
                label++;
            }
            now.labels[pot] = label;
        }
        return count(1);
    }

    int hang(int figure, int ground) {
        needPot(figure);
        needPot(ground);
        argument(figure != ground);
        save();
        if (now.charts.size() == 6) {
            now.refusals++;
            return -1;
        }
        now.charts.add(new int[] {figure, ground});
        return now.charts.size() - 1;
    }

    int takeDown(int chart) {
        needChart(chart);
        save();
        int readers = Integer.bitCount(chartOf(chart, 2));
        now.charts.remove(chart);
        return readers;
    }

    /** The colours by their change, then by red, green, blue; the first that is told apart. */
    private int[] nearest(int painter, int pot, int other) {
        int[] from = now.pots[pot];
        for (int change = 0; change <= 27; change++) {
            for (int red = 0; red < 10; red++) {
                for (int green = 0; green < 10; green++) {
                    for (int blue = 0; blue < 10; blue++) {
                        int[] c = {red, green, blue};
                        if (sum(from, c) == change && tells(painter, now.painters[painter][2], c, now.pots[other])) {
                            return c;
                        }
                    }
                }
            }
        }
        return null;
    }

    int correct(int chart, int painter) {
        needChart(chart);
        needPainter(painter);
        save();
        int[] hung = now.charts.get(chart);
        int[] nearest = nearest(painter, hung[0], hung[1]);
        if (nearest == null) {
            now.refusals++;
            return -1;
        }
        int change = sum(nearest, now.pots[hung[0]]);
        now.pots[hung[0]] = nearest;
        now.corrections += change > 0 ? 1 : 0;
        return change;
    }

    int append(int code) {
        argument(in(code, 33, 126));
        state(buffer.length() < 60);
        buffer += (char) code;
        return buffer.length();
    }

    int clearBuffer() {
        int before = buffer.length();
        buffer = "";
        return before;
    }

    int firstError() {
        int length = 0;
        while (length < buffer.length() && begins(buffer.substring(0, length + 1))) {
            length++;
        }
        return length;
    }

    private static boolean begins(String text) {
        Matcher matcher = POTS.matcher(text);
        return matcher.matches() || matcher.hitEnd();
    }

    int load() {
        argument(POTS.matcher(buffer).matches());
        save();
        for (String pot : buffer.split(";")) {
            for (int part = 0; part < 3; part++) {
                now.pots[pot.charAt(0) - '0'][part] = pot.charAt(2 + part) - '0';
            }
        }
        buffer = "";
        return painterOf(0, 3);
    }

    int keep(int slot) {
        argument(in(slot, 0, 1));
        slots[slot] = now.copy();
        return count(0);
    }

    int goBack(int slot) {
        argument(in(slot, 0, 1));
        state(slots[slot] != null);
        save();
        now = slots[slot].copy();
        return count(0);
    }

    int undo() {
        state(!saved.isEmpty());
        now = saved.remove(saved.size() - 1);
        return saved.size();
    }

    int potOf(int pot, int what) {
        needPot(pot);
        argument(in(what, 0, 4));
        if (what < 3) {
            return now.pots[pot][what];
        }
        if (what == 3) {
            return now.labels[pot];
        }
        int mask = 0;
        for (int painter = 0; painter < 4; painter++) {
            for (int other = 0; other < 8; other++) {
                mask |= other != pot && tells(painter, pot, other) ? 1 << painter : 0;
            }
        }
        return mask;
    }

    int seen(int painter, int pot) {
        needPainter(painter);
        needPot(pot);
        int[] look = look(now.painters[painter][0], now.pots[pot]);
        return 100 * look[0] + 10 * look[1] + look[2];
    }

    int painterOf(int painter, int what) {
        needPainter(painter);
        argument(in(what, 0, 6));
        int lender = now.painters[painter][2];
        int read = 0;
        for (int[] chart : now.charts) {
            read += tells(painter, chart[0], chart[1]) ? 1 : 0;
        }
        int[] numbers = {now.painters[painter][0], now.painters[painter][1], lender == painter ? -1 : lender,
            ifBorrowed(painter, lender), alike(painter), alike(painter) == 0 ? 1 : 0, read};
        return numbers[what];
    }

    private int alike(int painter) {
        int pairs = 0;
        for (int pot = 0; pot < 8; pot++) {
            for (int other = 0; other < pot; other++) {
                boolean alike = now.labels[pot] >= 0 && now.labels[pot] == now.labels[other];
                pairs += alike && tells(painter, pot, other) ? 1 : 0;
            }
        }
        return pairs;
    }

    int apart(int painter, int pot, int other) {
        needPainter(painter);
        needPot(pot);
        needPot(other);
        return tells(painter, pot, other) ? 1 : 0;
    }

    int chartOf(int chart, int what) {
        needChart(chart);
        argument(in(what, 0, 2));
        int[] hung = now.charts.get(chart);
        int mask = 0;
        for (int painter = 0; painter < 4; painter++) {
            mask += tells(painter, hung[0], hung[1]) ? 1 << painter : 0;
        }
        return what == 2 ? mask : hung[what];
    }

    int count(int what) {
        argument(in(what, 0, 7));
        Set<Integer> labels = new HashSet<>();
        int labelled = 0;
        int secret = 0;
        for (int pot = 0; pot < 8; pot++) {
            labelled += now.labels[pot] >= 0 ? 1 : 0;
            labels.add(now.labels[pot]);
            for (int other = 0; other < pot; other++) {
                boolean told = false;
                for (int painter = 0; painter < 4; painter++) {
                    told |= tells(painter, pot, other);
                }
                secret += told ? 0 : 1;
            }
        }
        labels.remove(-1);
        int right = 0;
        for (int painter = 0; painter < 4; painter++) {
            right += alike(painter) == 0 ? 1 : 0;
        }
        int[] numbers = {labelled, labels.size(), now.charts.size(), secret, right, now.corrections, now.refusals,
            saved.size()};
        return numbers[what];
    }

    int fewest(int painter, int what) {
        needPainter(painter);
        argument(in(what, 0, 1));
        int labels = 1;
        while (!canLabel(painter, labels, 0, new int[8])) {
            labels++;
        }
        return labels;
    }

    private boolean canLabel(int painter, int labels, int pot, int[] given) {
        if (pot == 8) {
            return true;
        }
        for (int label = 0; label < labels; label++) {
            boolean free = true;
            for (int ahead = 0; ahead < pot; ahead++) {
                free &= given[ahead] != label || !tells(painter, pot, ahead);
            }
            given[pot] = label;
            if (free && canLabel(painter, labels, pot + 1, given)) {
                return true;
            }
        }
        return false;
    }

    int ifBorrowed(int painter, int lender) {
        needPainter(painter);
        needPainter(lender);
        int pairs = 0;
        for (int pot = 0; pot < 8; pot++) {
            for (int other = 0; other < pot; other++) {
                pairs += tells(painter, lender, now.pots[pot], now.pots[other]) ? 1 : 0;
            }
        }
        return pairs;
    }

    int leastChange(int painter, int pot, int other) {
        needPainter(painter);
        needPot(pot);
        needPot(other);
        argument(pot != other);
        int[] nearest = nearest(painter, pot, other);
        return nearest == null ? -1 : sum(now.pots[pot], nearest);
    }

    int bestPainter() {
        int best = 0;
        for (int painter = 1; painter < 4; painter++) {
            best = painterOf(painter, 3) > painterOf(best, 3) ? painter : best;
        }
        return best;
    }

    double apartShare() {
        double sum = 0;
        for (int painter = 0; painter < 4; painter++) {
            sum += painterOf(painter, 3);
        }
        return sum / 112;
    }

    long digest() {
        List<Long> values = new ArrayList<>();
        for (int what = 0; what < 8; what++) {
            values.add((long) count(what));
        }
        for (int i = 0; i < 40; i++) {
            values.add((long) potOf(i / 5, i % 5));
        }
        for (int painter = 0; painter < 4; painter++) {
            for (int what = 0; what < 7; what++) {
                values.add((long) painterOf(painter, what));
            }
            for (int pot = 0; pot < 8; pot++) {
                values.add((long) seen(painter, pot));
            }
            values.addAll(Arrays.asList((long) fewest(painter, 0), (long) fewest(painter, 1)));
            for (int lender = 0; lender < 4; lender++) {
                values.add((long) ifBorrowed(painter, lender));
            }
            values.addAll(Arrays.asList((long) leastChange(painter, 0, 7), (long) leastChange(painter, 7, 0)));
        }
        for (int chart = 0; chart < now.charts.size(); chart++) {
            for (int what = 0; what < 3; what++) {
                values.add((long) chartOf(chart, what));
            }
        }
        values.add((long) bestPainter());
        values.add(Double.doubleToLongBits(apartShare()));
        values.addAll(Arrays.asList(slots[0] == null ? 0L : 1L, slots[1] == null ? 0L : 1L, (long) buffer.length()));
        for (char sign : buffer.toCharArray()) {
            values.add((long) sign);
        }
        long hash = 3677;
        for (long value : values) {
            hash = 31 * hash + value;
        }
        return hash;
    }
}
