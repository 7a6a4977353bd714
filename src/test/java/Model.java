import java.util.ArrayList;
import java.util.Arrays;
import java.util.List;
import java.util.regex.Matcher;
import java.util.regex.Pattern;

/**
 * A second tackle, written from the document in another way and without a care for speed, to hold
 * the program against. Its states are copies, its rope is a list of strands, its text a String.
 */
final class Model {
    private static final Pattern REEVING = Pattern.compile("[0-3]{0,10}\\.[0-4](,[0-9]{1,5}){0,4}");

    private record Strand(int block, int passed) { }

    private record Entry(int block, int way, int rope) { }

    private record State(int[] weights, int[] heights, List<Integer> row, int end, int length, int friction,
            List<Entry> ledger, long put, long got) {
        State copy() {
            return new State(weights.clone(), heights.clone(), new ArrayList<>(row), end, length, friction,
                new ArrayList<>(ledger), put, got);
        }

        State with(int[] heights, List<Integer> row, int end, int length, int friction) {
            return new State(weights.clone(), heights, row, end, length, friction, new ArrayList<>(ledger), put, got);
        }
    }

    private State now = new State(new int[] {1000, 1000, 1000, 1000}, new int[4], new ArrayList<>(List.of(0)), 4,
        60000, 10, new ArrayList<>(), 0, 0);
    private final List<State> saved = new ArrayList<>();
    private String text = "";

    private static List<Strand> strands(List<Integer> row, int end) {
        List<Strand> all = new ArrayList<>();
        int passed = 0;
        for (int block : row) {
            all.add(new Strand(block, ++passed));
            all.add(new Strand(block, ++passed));
        }
        if (end != 4) {
            all.add(new Strand(end, ++passed));
        }
        return all;
    }

    private static long tension(long hand, int passed, int friction, boolean hauled) {
        return passed == 0 ? hand : behind(tension(hand, passed - 1, friction, hauled), friction, hauled);
    }

    private static long behind(long ahead, int friction, boolean hauled) {
        return hauled ? ahead - ahead * friction / 100 : ahead + ahead * friction / 100;
    }

    private static long pull(State s, int block, long hand, boolean hauled) {
        long sum = 0;
        for (Strand strand : strands(s.row, s.end)) {
            if (strand.block == block) {
                sum += tension(hand, strand.passed, s.friction, hauled);
            }
        }
        return sum;
    }

    private static int count(State s, int block) {
        int count = 0;
        for (Strand strand : strands(s.row, s.end)) {
            count += strand.block == block ? 1 : 0;
        }
        return count;
    }

    /** The greatest force that does not do, built bit by bit, and one more. */
    private static int least(State s, int block, boolean hauled) {
        if (count(s, block) == 0 || pull(s, block, 1000000, hauled) < s.weights[block]) {
            return -1;
        }
        if (s.weights[block] == 0) {
            return 0;
        }
        int force = 0;
        for (int bit = 1 << 19; bit > 0; bit >>= 1) {
            if (force + bit <= 1000000 && pull(s, block, force + bit, hauled) < s.weights[block]) {
                force += bit;
            }
        }
        return force + 1;
    }

    private static int out(State s) {
        int sum = 0;
        for (Strand strand : strands(s.row, s.end)) {
            sum += 10000 - s.heights[strand.block];
        }
        return sum;
    }

    private void save() {
        saved.add(now.copy());
        if (saved.size() > 4) {
            saved.remove(0);
        }
    }

    private static void need(boolean met, RuntimeException otherwise) {
        if (!met) {
            throw otherwise;
        }
    }

    private static void blockIn(int block) {
        need(block >= 0 && block <= 3, new IndexOutOfBoundsException());
    }

    private static void in(int number, int least, int most) {
        need(number >= least && number <= most, new IllegalArgumentException());
    }

    private void become(State next) {
        need(next.length >= out(next), new IllegalStateException());
        save();
        now = next;
    }

    int setWeight(int block, int weight) {
        blockIn(block);
        in(weight, 0, 50000);
        save();
        int previous = now.weights[block];
        now.weights[block] = weight;
        return previous;
    }

    int setFriction(int friction) {
        in(friction, 0, 30);
        int previous = now.friction;
        become(now.with(now.heights.clone(), new ArrayList<>(now.row), now.end, now.length, friction));
        return previous;
    }

    int setLength(int length) {
        in(length, 1000, 300000);
        become(now.with(now.heights.clone(), new ArrayList<>(now.row), now.end, length, now.friction));
        return value(1);
    }

    int addPulley(int block) {
        blockIn(block);
        need(now.row.size() < 10, new IllegalStateException());
        List<Integer> row = new ArrayList<>(now.row);
        row.add(block);
        become(now.with(now.heights.clone(), row, now.end, now.length, now.friction));
        return row.size();
    }

    int takePulley() {
        need(!now.row.isEmpty(), new IllegalStateException());
        List<Integer> row = new ArrayList<>(now.row);
        int block = row.remove(row.size() - 1);
        become(now.with(now.heights.clone(), row, now.end, now.length, now.friction));
        return block;
    }

    int setEnd(int end) {
        need(end >= 0 && end <= 4, new IndexOutOfBoundsException());
        int previous = now.end;
        become(now.with(now.heights.clone(), new ArrayList<>(now.row), end, now.length, now.friction));
        return previous;
    }

    /** Moves blocks one after the other, till none can; the ledger keeps every move. */
    private static State moved(State s, int force, int length, boolean up) {
        State next = s.copy();
        int left = length;
        long got = s.got;
        while (true) {
            int turn = -1;
            for (int block = 3; block >= 0; block--) {
                int need = least(next, block, up);
                boolean able = need != -1 && (up ? next.heights[block] < 9000 && need <= force
                    : next.heights[block] > 0 && need > force);
                boolean ahead = turn == -1 || (up ? need <= least(next, turn, true) : need >= least(next, turn, false));
                if (able && ahead) {
                    turn = block;
                }
            }
            int way = 0;
            if (turn != -1) {
                way = Math.min(left / count(next, turn), up ? 9000 - next.heights[turn] : next.heights[turn]);
            }
            if (way == 0) {
                break;
            }
            int rope = way * count(next, turn);
            next.heights[turn] += up ? way : -way;
            next.ledger.add(0, new Entry(turn, up ? way : -way, up ? rope : -rope));
            got += up ? (long) next.weights[turn] * way : 0;
            left -= rope;
        }
        long put = s.put + (up ? (long) force * (length - left) : 0);
        return new State(next.weights, next.heights, next.row, next.end, next.length, next.friction, next.ledger, put, got);
    }

    int haul(int force, int length) {
        in(force, 0, 1000000);
        in(length, 0, 100000);
        int before = out(now);
        become(moved(now, force, length, true));
        return before - out(now);
    }

    int letOut(int force, int length) {
        in(force, 0, 1000000);
        in(length, 0, 100000);
        int before = out(now);
        become(moved(now, force, Math.min(length, value(1)), false));
        return out(now) - before;
    }

    int block(int block, int what) {
        blockIn(block);
        in(what, 0, 6);
        int[] all = {now.weights[block], now.heights[block], count(now, block),
            (int) now.row.stream().filter(one -> one == block).count(), least(now, block, true),
            least(now, block, false), count(now, block) * (9000 - now.heights[block])};
        return all[what];
    }

    int pulley(int index) {
        need(index >= 0 && index < now.row.size(), new IndexOutOfBoundsException());
        return now.row.get(index);
    }

    long force(int force, int passed, boolean hauled) {
        in(force, 0, 1000000);
        in(passed, 0, value(5));
        return tension(force, passed, now.friction, hauled);
    }

    long pull(int block, int force, boolean hauled) {
        blockIn(block);
        in(force, 0, 1000000);
        return pull(now, block, force, hauled);
    }

    private int moves(boolean up) {
        return (int) now.ledger.stream().filter(entry -> up == entry.way > 0).count();
    }

    int value(int what) {
        in(what, 0, 9);
        int[] all = {now.length, now.length - out(now), now.friction, now.row.size(), now.end,
            strands(now.row, now.end).size(), out(now), moves(true), moves(false), Math.min(16, now.ledger.size())};
        return all[what];
    }

    long work(boolean got) {
        return got ? now.got : now.put;
    }

    int entry(int index, int what) {
        need(index >= 0 && index < value(9), new IndexOutOfBoundsException());
        in(what, 0, 2);
        Entry entry = now.ledger.get(index);
        return what == 0 ? entry.block : what == 1 ? entry.way : entry.rope;
    }

    int first() {
        int best = -1;
        for (int block = 0; block < 4; block++) {
            int need = least(now, block, true);
            if (need >= 0 && now.heights[block] < 9000 && (best < 0 || need < least(now, best, true))) {
                best = block;
            }
        }
        return best;
    }

    int forceForAll() {
        List<Integer> needs = new ArrayList<>();
        for (int block = 0; block < 4; block++) {
            if (count(now, block) > 0 && now.heights[block] < 9000) {
                needs.add(least(now, block, true));
            }
        }
        return needs.contains(-1) ? -1 : needs.stream().mapToInt(need -> need).max().orElse(0);
    }

    int pulleysFor(int block, int force) {
        blockIn(block);
        in(force, 0, 1000000);
        List<Integer> row = new ArrayList<>();
        while (row.size() < 10) {
            row.add(block);
            int need = least(now.with(now.heights, row, 4, now.length, now.friction), block, true);
            if (need >= 0 && need <= force) {
                return row.size();
            }
        }
        return -1;
    }

    int bestEnd(int block) {
        blockIn(block);
        int best = -1;
        int least = Integer.MAX_VALUE;
        for (int end = 4; end >= 0; end--) {
            int need = least(now.with(now.heights, now.row, end, now.length, now.friction), block, true);
            if (need >= 0 && need <= least) {
                best = end;
                least = need;
            }
        }
        return best;
    }

    int swapped(int block, int first, int second) {
        blockIn(block);
        pulley(first);
        pulley(second);
        List<Integer> row = new ArrayList<>(now.row);
        row.set(first, now.row.get(second));
        row.set(second, now.row.get(first));
        return least(now.with(now.heights, row, now.end, now.length, now.friction), block, true);
    }

    int riseBy(int block, int force, int length) {
        blockIn(block);
        in(force, 0, 1000000);
        in(length, 0, 100000);
        return moved(now, force, length, true).heights[block] - now.heights[block];
    }

    double efficiency() {
        return now.put == 0 ? 0.0 : (double) now.got / (double) now.put;
    }

    int append(int value) {
        in(value, 0, 127);
        need(text.length() < 60, new IllegalStateException());
        text += (char) value;
        return text.length();
    }

    int clearText() {
        int length = text.length();
        text = "";
        return length;
    }

    /** Looks at every beginning of the text: whether a reeving can still come of it. */
    static int fault(String text) {
        for (int i = 0; i <= text.length(); i++) {
            boolean digit = i < text.length() && text.charAt(i) >= '0' && text.charAt(i) <= '9';
            int start = text.lastIndexOf(',', i - 1) + 1;
            if (!digit && start > 0 && start < i && Integer.parseInt(text.substring(start, i)) > 50000) {
                return start;
            }
            if (i < text.length()) {
                Matcher matcher = REEVING.matcher(text.substring(0, i + 1));
                if (!matcher.matches() && !matcher.hitEnd()) {
                    return i;
                }
            }
        }
        return REEVING.matcher(text).matches() ? -1 : text.length();
    }

    int parse() {
        int fault = fault(text);
        if (fault >= 0) {
            return -10 - fault;
        }
        String[] parts = text.split(",");
        int dot = parts[0].indexOf('.');
        List<Integer> row = new ArrayList<>();
        for (char digit : parts[0].substring(0, dot).toCharArray()) {
            row.add(digit - '0');
        }
        State next = now.with(new int[4], row, parts[0].charAt(dot + 1) - '0', now.length, now.friction);
        for (int block = 0; block < parts.length - 1; block++) {
            next.weights[block] = Integer.parseInt(parts[block + 1]);
        }
        if (next.length < out(next)) {
            return -1;
        }
        become(next);
        return value(1);
    }

    int undo() {
        need(!saved.isEmpty(), new IllegalStateException());
        now = saved.remove(saved.size() - 1);
        return saved.size();
    }

    long digest() {
        List<Long> all = new ArrayList<>(Arrays.asList((long) text.length()));
        for (int what = 0; what <= 9; what++) {
            all.add((long) value(what));
        }
        all.add(work(false));
        all.add(work(true));
        for (int block = 0; block < 4; block++) {
            for (int what = 0; what <= 6; what++) {
                all.add((long) block(block, what));
            }
        }
        for (int block : now.row) {
            all.add((long) block);
        }
        for (int index = 0; index < value(9); index++) {
            for (int what = 0; what < 3; what++) {
                all.add((long) entry(index, what));
            }
        }
        all.add((long) saved.size());
        long h = 3623;
        for (long value : all) {
            h = 31 * h + value;
        }
        return h;
    }
}
