/**
 * A tackle of one rope: a row of pulleys on four blocks, friction, blocks that rise and sink,
 * a ledger of their moves, what-if questions and reevings that are read from a text.
 * Lengths and heights are in millimeters, weights and forces in newtons.
 */
public final class RopeTackle {
    /** There is no such thing. */
    public static final int NONE = -1;
    /** The beam, as the end of the rope. */
    public static final int BEAM = 4;

    private static final int BLOCKS = 4;
    private static final int BEAM_HEIGHT = 10000;
    private static final int TOP = 9000;
    private static final int MOST_WEIGHT = 50000;
    private static final int FIRST_WEIGHT = 1000;
    private static final int MOST_FRICTION = 30;
    private static final int FIRST_FRICTION = 10;
    private static final int LEAST_LENGTH = 1000;
    private static final int MOST_LENGTH = 300000;
    private static final int FIRST_LENGTH = 60000;
    private static final int MOST_PULLEYS = 10;
    private static final int MOST_FORCE = 1000000;
    private static final int MOST_MOVE = 100000;
    private static final int MOST_ENTRIES = 16;
    private static final int ENTRY_PARTS = 3;
    private static final int MOST_SAVED = 4;
    private static final int MOST_TEXT = 60;
    private static final int MOST_BYTE = 127;
    private static final int WEIGHT_DIGITS = 5;
    private static final int FAULT_BASE = -10;
    /** More halvings than the range of the forces can need. */
    private static final int HALVINGS = 32;

    private final State now = new State();
    /** The state that what-if questions and refusable changes are tried on, kept to be used again. */
    private final State trial = new State();
    private final State[] saved = new State[MOST_SAVED];
    private int savedCount = 0;
    /** Where the next saved state goes: the slots are used in a ring. */
    private int nextSlot = 0;
    private final Text text = new Text();

    public RopeTackle() {
        for (int i = 0; i < saved.length; i++) {
            saved[i] = new State();
        }
    }

    // ---- tackle

    public int setWeight(int block, int weight) throws IndexOutOfBoundsException, IllegalArgumentException {
        checkBlock(block);
        checkRange(weight, 0, MOST_WEIGHT);
        save();
        int previous = now.weightOf(block);
        now.giveWeight(block, weight);
        return previous;
    }

    public int setFriction(int friction) throws IllegalArgumentException {
        checkRange(friction, 0, MOST_FRICTION);
        save();
        int previous = now.reeving.friction;
        now.reeving.friction = friction;
        return previous;
    }

    public int setLength(int length) throws IllegalArgumentException, IllegalStateException {
        checkRange(length, LEAST_LENGTH, MOST_LENGTH);
        trial.copyFrom(now);
        trial.ropeLength = length;
        checkTrialRope();
        acceptTrial();
        return now.inHand();
    }

    public int addPulley(int block) throws IndexOutOfBoundsException, IllegalStateException {
        checkBlock(block);
        if (now.reeving.pulleys >= MOST_PULLEYS) {
            throw new IllegalStateException("the row is full");
        }
        trial.copyFrom(now);
        trial.reeving.hang(block);
        checkTrialRope();
        acceptTrial();
        return now.reeving.pulleys;
    }

    public int takePulley() throws IllegalStateException {
        if (now.reeving.pulleys <= 0) {
            throw new IllegalStateException("the row is empty");
        }
        save();
        return now.reeving.unhang();
    }

    public int setEnd(int end) throws IndexOutOfBoundsException, IllegalStateException {
        if (end < 0 || end > BEAM) {
            throw new IndexOutOfBoundsException("no such end");
        }
        int previous = now.reeving.end;
        trial.copyFrom(now);
        trial.reeving.end = end;
        checkTrialRope();
        acceptTrial();
        return previous;
    }

    public int haul(int force, int length) throws IllegalArgumentException {
        checkRange(force, 0, MOST_FORCE);
        checkRange(length, 0, MOST_MOVE);
        save();
        return now.moveUp(force, length);
    }

    public int letOut(int force, int length) throws IllegalArgumentException {
        checkRange(force, 0, MOST_FORCE);
        checkRange(length, 0, MOST_MOVE);
        save();
        return now.moveDown(force, length);
    }

    // ---- values

    public int block(int block, int what) throws IndexOutOfBoundsException, IllegalArgumentException {
        checkBlock(block);
        switch (what) {
            case 0: return now.weightOf(block);
            case 1: return now.heightOf(block);
            case 2: return now.reeving.strandsOf(block);
            case 3: return now.reeving.pulleysOn(block);
            case 4: return now.leastForceFor(block, true);
            case 5: return now.leastForceFor(block, false);
            case 6: return now.reeving.strandsOf(block) * (TOP - now.heightOf(block));
            default: throw new IllegalArgumentException("no such value of a block");
        }
    }

    public int pulley(int index) throws IndexOutOfBoundsException {
        checkPulley(index);
        return at(now.reeving.row, index);
    }

    public long force(int force, int passed, boolean hauled) throws IllegalArgumentException {
        checkRange(force, 0, MOST_FORCE);
        checkRange(passed, 0, now.reeving.passes());
        return now.reeving.forceBehind(force, passed, hauled);
    }

    public long pull(int block, int force, boolean hauled)
            throws IndexOutOfBoundsException, IllegalArgumentException {
        checkBlock(block);
        checkRange(force, 0, MOST_FORCE);
        return now.reeving.pullOn(block, force, hauled);
    }

    public int value(int what) throws IllegalArgumentException {
        switch (what) {
            case 0: return now.ropeLength;
            case 1: return now.inHand();
            case 2: return now.reeving.friction;
            case 3: return now.reeving.pulleys;
            case 4: return now.reeving.end;
            case 5: return now.reeving.passes();
            case 6: return now.inStrands();
            case 7: return now.ledger.rises;
            case 8: return now.ledger.sinkings;
            case 9: return now.ledger.kept;
            default: throw new IllegalArgumentException("no such value");
        }
    }

    public long work(boolean got) {
        return got ? now.ledger.workGot : now.ledger.workPut;
    }

    public int entry(int index, int what) throws IndexOutOfBoundsException, IllegalArgumentException {
        if (index < 0 || index >= now.ledger.kept) {
            throw new IndexOutOfBoundsException("no such entry");
        }
        checkRange(what, 0, ENTRY_PARTS - 1);
        return now.ledger.part(index, what);
    }

    // ---- what if

    public int first() {
        now.reckonForces(true);
        return now.nextToRise(MOST_FORCE);
    }

    public int forceForAll() {
        int greatest = 0;
        for (int block = 0; block < BLOCKS; block++) {
            if (now.reeving.strandsOf(block) > 0 && now.heightOf(block) < TOP) {
                int lifting = now.leastForceFor(block, true);
                if (lifting == NONE) {
                    return NONE;
                }
                greatest = Math.max(greatest, lifting);
            }
        }
        return greatest;
    }

    public int pulleysFor(int block, int force) throws IndexOutOfBoundsException, IllegalArgumentException {
        checkBlock(block);
        checkRange(force, 0, MOST_FORCE);
        trial.copyFrom(now);
        trial.reeving.unreeve();
        for (int count = 1; count <= MOST_PULLEYS; count++) {
            trial.reeving.hang(block);
            if (trial.reeving.pullOn(block, force, true) >= trial.weightOf(block)) {
                return count;
            }
        }
        return NONE;
    }

    public int bestEnd(int block) throws IndexOutOfBoundsException {
        checkBlock(block);
        trial.copyFrom(now);
        int best = NONE;
        int least = NONE;
        for (int end = 0; end <= BEAM; end++) {
            trial.reeving.end = end;
            int lifting = trial.leastForceFor(block, true);
            if (lifting != NONE && (best == NONE || lifting < least)) {
                best = end;
                least = lifting;
            }
        }
        return best;
    }

    public int swapped(int block, int first, int second) throws IndexOutOfBoundsException {
        checkBlock(block);
        checkPulley(first);
        checkPulley(second);
        trial.copyFrom(now);
        trial.reeving.swap(first, second);
        return trial.leastForceFor(block, true);
    }

    public int riseBy(int block, int force, int length)
            throws IndexOutOfBoundsException, IllegalArgumentException {
        checkBlock(block);
        checkRange(force, 0, MOST_FORCE);
        checkRange(length, 0, MOST_MOVE);
        trial.copyFrom(now);
        trial.moveUp(force, length);
        return trial.heightOf(block) - now.heightOf(block);
    }

    public double efficiency() {
        double put = (double) now.ledger.workPut;
        return put > 0.0 ? (double) now.ledger.workGot / put : 0.0;
    }

    // ---- text

    public int append(int value) throws IllegalArgumentException, IllegalStateException {
        checkRange(value, 0, MOST_BYTE);
        if (text.length >= MOST_TEXT) {
            throw new IllegalStateException("the text is full");
        }
        put(text.bytes, text.length, value);
        text.length++;
        return text.length;
    }

    public int clearText() {
        int length = text.length;
        text.length = 0;
        return length;
    }

    public int parse() {
        trial.copyFrom(now);
        int fault = text.readInto(trial);
        if (fault != NONE) {
            return FAULT_BASE - fault;
        }
        if (trial.inHand() < 0) {
            return NONE;
        }
        acceptTrial();
        return now.inHand();
    }

    // ---- state

    public int undo() throws IllegalStateException {
        if (savedCount <= 0) {
            throw new IllegalStateException("nothing is saved");
        }
        nextSlot = Math.floorMod(nextSlot - 1, MOST_SAVED);
        State last = savedAt(nextSlot);
        if (last != null) {
            now.copyFrom(last);
        }
        savedCount--;
        return savedCount;
    }

    public long digest() {
        long h = 31L * 3623 + text.length;
        for (int what = 0; what <= 9; what++) {
            h = 31 * h + value(what);
        }
        h = 31 * h + work(false);
        h = 31 * h + work(true);
        for (int block = 0; block < BLOCKS; block++) {
            for (int what = 0; what <= 6; what++) {
                h = 31 * h + block(block, what);
            }
        }
        for (int i = 0; i < now.reeving.pulleys; i++) {
            h = 31 * h + at(now.reeving.row, i);
        }
        for (int i = 0; i < now.ledger.kept; i++) {
            for (int what = 0; what < ENTRY_PARTS; what++) {
                h = 31 * h + now.ledger.part(i, what);
            }
        }
        return 31 * h + savedCount;
    }

    // ---- what the face is built from

    /** Saves the state for undo; the ring lets go of the oldest one by itself. */
    private void save() {
        State slot = savedAt(nextSlot);
        if (slot != null) {
            slot.copyFrom(now);
        }
        nextSlot = Math.floorMod(nextSlot + 1, MOST_SAVED);
        savedCount = Math.min(savedCount + 1, MOST_SAVED);
    }

    private State savedAt(int slot) {
        return slot >= 0 && slot < saved.length ? saved[slot] : null;
    }

    private void acceptTrial() {
        save();
        now.copyFrom(trial);
    }

    private void checkTrialRope() {
        if (trial.inHand() < 0) {
            throw new IllegalStateException("the rope is too short");
        }
    }

    private static boolean isBlock(int block) {
        return block >= 0 && block < BLOCKS;
    }

    private static void checkBlock(int block) {
        if (!isBlock(block)) {
            throw new IndexOutOfBoundsException("no such block");
        }
    }

    private void checkPulley(int index) {
        if (index < 0 || index >= now.reeving.pulleys) {
            throw new IndexOutOfBoundsException("no such pulley");
        }
    }

    private static void checkRange(int number, int least, int most) {
        if (number < least || number > most) {
            throw new IllegalArgumentException("out of range");
        }
    }

    /** An element of a row, or 0 outside of it, so that no index is used unseen. */
    private static int at(int[] row, int index) {
        return index >= 0 && index < row.length ? row[index] : 0;
    }

    /** Sets an element of a row, if the row has it. */
    private static void put(int[] row, int index, int value) {
        if (index >= 0 && index < row.length) {
            row[index] = value;
        }
    }

    private static void copyRow(int[] from, int[] to) {
        for (int i = 0; i < to.length && i < from.length; i++) {
            to[i] = from[i];
        }
    }

    /** All that undo brings back. */
    private static final class State {
        private final Reeving reeving = new Reeving();
        private final Ledger ledger = new Ledger();
        private final int[] weights = new int[BLOCKS];
        private final int[] heights = new int[BLOCKS];
        /** The blocks' least forces for the move at hand: they stay the same while blocks move. */
        private final int[] forces = new int[BLOCKS];
        private int ropeLength = FIRST_LENGTH;

        State() {
            for (int i = 0; i < weights.length; i++) {
                weights[i] = FIRST_WEIGHT;
            }
        }

        void copyFrom(State other) {
            reeving.copyFrom(other.reeving);
            ledger.copyFrom(other.ledger);
            copyRow(other.weights, weights);
            copyRow(other.heights, heights);
            ropeLength = other.ropeLength;
        }

        int weightOf(int block) {
            return at(weights, block);
        }

        void giveWeight(int block, int weight) {
            put(weights, block, weight);
        }

        int heightOf(int block) {
            return at(heights, block);
        }

        void layAllDown() {
            for (int i = 0; i < heights.length; i++) {
                heights[i] = 0;
            }
        }

        int inStrands() {
            int sum = 0;
            for (int block = 0; block < BLOCKS; block++) {
                sum += reeving.strandsOf(block) * (BEAM_HEIGHT - heightOf(block));
            }
            return sum;
        }

        /** What the hand has of the rope; below 0 only in a trial that is refused then. */
        int inHand() {
            return ropeLength - inStrands();
        }

        /** The lifting or the holding force of a block. */
        int leastForceFor(int block, boolean hauled) {
            return reeving.leastForce(block, weightOf(block), hauled);
        }

        void reckonForces(boolean hauled) {
            for (int block = 0; block < forces.length; block++) {
                forces[block] = leastForceFor(block, hauled);
            }
        }

        /** The block whose turn it is to rise, by the reckoned lifting forces. */
        int nextToRise(int hand) {
            int next = NONE;
            int least = NONE;
            for (int block = 0; block < BLOCKS; block++) {
                int lifting = at(forces, block);
                boolean canRise = lifting != NONE && lifting <= hand && heightOf(block) < TOP;
                if (canRise && (next == NONE || lifting < least)) {
                    next = block;
                    least = lifting;
                }
            }
            return next;
        }

        /** The block whose turn it is to sink, by the reckoned holding forces. */
        int nextToSink(int hand) {
            int next = NONE;
            int greatest = hand;
            for (int block = 0; block < BLOCKS; block++) {
                int holding = at(forces, block);
                if (holding > greatest && heightOf(block) > 0) {
                    next = block;
                    greatest = holding;
                }
            }
            return next;
        }

        int moveUp(int hand, int most) {
            reckonForces(true);
            int rope = moveInTurn(hand, most, true);
            ledger.workPut += (long) hand * rope;
            return rope;
        }

        int moveDown(int hand, int most) {
            reckonForces(false);
            return moveInTurn(hand, Math.min(most, inHand()), false);
        }

        /** Returns the rope that all the moves take. */
        private int moveInTurn(int hand, int most, boolean up) {
            int left = most;
            // A block that stops short of the top or the floor leaves less rope than one more
            // millimeter of it needs, and keeps its turn: no block moves twice.
            for (int turn = 0; turn < BLOCKS; turn++) {
                int rope = moveOne(up ? nextToRise(hand) : nextToSink(hand), left, up);
                if (rope == 0) {
                    break;
                }
                left -= rope;
            }
            return most - left;
        }

        /** Returns the rope that the move takes: 0 if it is nobody's turn, or too little rope is left. */
        private int moveOne(int block, int left, boolean up) {
            int strands = reeving.strandsOf(block);
            if (!isBlock(block) || strands <= 0) {
                return 0;
            }
            int room = up ? TOP - heightOf(block) : heightOf(block);
            int way = Math.min(left / strands, room);
            if (way <= 0) {
                return 0;
            }
            int rise = up ? way : -way;
            put(heights, block, heightOf(block) + rise);
            ledger.note(block, rise, rise * strands);
            if (up) {
                ledger.workGot += (long) weightOf(block) * way;
            }
            return way * strands;
        }
    }

    /** The way of the rope: the pulleys that it goes around, its end, and the friction on it. */
    private static final class Reeving {
        private final int[] row = new int[MOST_PULLEYS];
        /** Initially there is one pulley in the row, on block 0. */
        private int pulleys = 1;
        private int end = BEAM;
        private int friction = FIRST_FRICTION;

        void copyFrom(Reeving other) {
            copyRow(other.row, row);
            pulleys = other.pulleys;
            end = other.end;
            friction = other.friction;
        }

        /** Empties the row and ties the end to the beam. */
        void unreeve() {
            pulleys = 0;
            end = BEAM;
        }

        void hang(int block) {
            if (pulleys < MOST_PULLEYS) {
                put(row, pulleys, block);
                pulleys++;
            }
        }

        int unhang() {
            if (pulleys > 0) {
                pulleys--;
            }
            return at(row, pulleys);
        }

        void swap(int one, int other) {
            int kept = at(row, one);
            put(row, one, at(row, other));
            put(row, other, kept);
        }

        int pulleysOn(int block) {
            int count = 0;
            for (int i = 0; i < pulleys && i < row.length; i++) {
                if (row[i] == block) {
                    count++;
                }
            }
            return count;
        }

        int strandsOf(int block) {
            return 2 * pulleysOn(block) + (end == block ? 1 : 0);
        }

        /** Ahead of each pulley in the row, and of an end that is a block, the rope passes one of the beam. */
        int passes() {
            return 2 * pulleys + (end == BEAM ? 0 : 1);
        }

        long behindOne(long ahead, boolean hauled) {
            long lost = ahead * friction / 100;
            return hauled ? ahead - lost : ahead + lost;
        }

        long forceBehind(int hand, int passed, boolean hauled) {
            long tension = hand;
            for (int i = 0; i < passed; i++) {
                tension = behindOne(tension, hauled);
            }
            return tension;
        }

        long pullOn(int block, int hand, boolean hauled) {
            long sum = 0;
            long tension = hand;
            for (int i = 0; i < pulleys && i < row.length; i++) {
                long ahead = behindOne(tension, hauled);
                tension = behindOne(ahead, hauled);
                if (row[i] == block) {
                    sum += ahead + tension;
                }
            }
            return end == block ? sum + behindOne(tension, hauled) : sum;
        }

        /** The least force of the hand with which the pull on a block is at least its weight. */
        int leastForce(int block, int weight, boolean hauled) {
            if (strandsOf(block) == 0 || pullOn(block, MOST_FORCE, hauled) < weight) {
                return NONE;
            }
            int low = 0;
            int high = MOST_FORCE;
            for (int i = 0; i < HALVINGS && low < high; i++) {
                int middle = (low + high) / 2;
                if (pullOn(block, middle, hauled) >= weight) {
                    high = middle;
                } else {
                    low = middle + 1;
                }
            }
            return high;
        }
    }

    /** The latest moves, and the sums over all of them. */
    private static final class Ledger {
        /** The entries in a ring, each with its block, its way and its rope. */
        private final int[] parts = new int[MOST_ENTRIES * ENTRY_PARTS];
        private int latest = 0;
        private int kept = 0;
        private int rises = 0;
        private int sinkings = 0;
        private long workPut = 0;
        private long workGot = 0;

        void copyFrom(Ledger other) {
            copyRow(other.parts, parts);
            latest = other.latest;
            kept = other.kept;
            rises = other.rises;
            sinkings = other.sinkings;
            workPut = other.workPut;
            workGot = other.workGot;
        }

        /** The way and the rope of a sinking are negative. */
        void note(int block, int way, int rope) {
            if (way > 0) {
                rises++;
            } else {
                sinkings++;
            }
            latest = Math.floorMod(latest + 1, MOST_ENTRIES);
            put(parts, latest * ENTRY_PARTS, block);
            put(parts, latest * ENTRY_PARTS + 1, way);
            put(parts, latest * ENTRY_PARTS + 2, rope);
            kept = Math.min(kept + 1, MOST_ENTRIES);
        }

        /** One part of an entry; index 0 is the latest entry. */
        int part(int index, int what) {
            return at(parts, Math.floorMod(latest - index, MOST_ENTRIES) * ENTRY_PARTS + what);
        }
    }

    /** The text, and the reader of the reeving in it. */
    private static final class Text {
        private final int[] bytes = new int[MOST_TEXT];
        private int length = 0;
        /** The index of the byte that is read next. */
        private int place = 0;

        /** Reads the text into a state; returns the syntax error position, NONE if there is none. */
        int readInto(State state) {
            place = 0;
            state.layAllDown();
            state.reeving.unreeve();
            for (int i = 0; i < MOST_PULLEYS && nextIsFrom('0', '3'); i++) {
                state.reeving.hang(takeDigit());
            }
            if (!nextIsFrom('.', '.')) {
                return place;
            }
            place++;
            if (!nextIsFrom('0', '4')) {
                return place;
            }
            state.reeving.end = takeDigit();
            int fault = NONE;
            for (int block = 0; block < BLOCKS && place < length && fault == NONE; block++) {
                fault = readWeight(state, block);
            }
            if (fault == NONE && place < length) {
                return place;
            }
            return fault;
        }

        /** Reads a comma and a weight; returns the syntax error position, NONE if there is none. */
        private int readWeight(State state, int block) {
            if (!nextIsFrom(',', ',')) {
                return place;
            }
            place++;
            int start = place;
            int weight = 0;
            for (int i = 0; i < WEIGHT_DIGITS && nextIsFrom('0', '9'); i++) {
                weight = 10 * weight + takeDigit();
            }
            if (place == start || nextIsFrom('0', '9')) {
                return place;
            }
            if (weight > MOST_WEIGHT) {
                return start;
            }
            state.giveWeight(block, weight);
            return NONE;
        }

        private boolean nextIsFrom(int least, int most) {
            if (place >= length) {
                return false;
            }
            int next = at(bytes, place);
            return next >= least && next <= most;
        }

        private int takeDigit() {
            int digit = at(bytes, place) - '0';
            place++;
            return digit;
        }
    }
}
