import java.util.List;
import java.util.function.Supplier;

/** Tackles in states that are unlike each other, and what can be seen of a tackle. */
final class Tackles {
    static final List<Supplier<RopeTackle>> UNLIKE = List.of(RopeTackle::new, Tackles::bare, Tackles::used, Tackles::full);

    private static final int MOST_SAVED = 4;

    private Tackles() { }

    /** No pulleys, the end on the beam: nothing hangs on the rope. */
    static RopeTackle bare() {
        RopeTackle x = new RopeTackle();
        x.takePulley();
        return x;
    }

    /** One block at the top, one on its way, two on the floor; four states are saved. */
    static RopeTackle used() {
        RopeTackle x = Check.reeved("01233.1,700,900,1100,4300", 7, 200000);
        x.haul(500, 60000);
        x.letOut(100, 5001);
        x.setWeight(2, 1050);
        x.setFriction(12);
        Check.write(x, "12.3,7");
        return x;
    }

    /** A full row, a full ledger whose first entries are dropped, a full text, four saved states. */
    static RopeTackle full() {
        RopeTackle x = Check.reeved("0123012301.2,900,1000,1100,1200", 5, 300000);
        for (int i = 1; i <= 20; i++) {
            x.haul(2000, 100 * i);
        }
        Check.write(x, "." + "4".repeat(59));
        return x;
    }

    /** All that a tackle tells of itself: its state, those that undo brings back, and its text. Uses it up. */
    static String trace(RopeTackle x) {
        StringBuilder seen = new StringBuilder();
        seen.append(x.digest());
        for (int i = 0; i <= MOST_SAVED; i++) {
            seen.append(' ').append(undone(x)).append(' ').append(x.digest());
        }
        seen.append(' ').append(x.parse()).append(' ').append(x.digest()).append(' ').append(x.clearText());
        return seen.toString();
    }

    /** Returns -1 if there is nothing to undo. */
    private static int undone(RopeTackle x) {
        try {
            return x.undo();
        } catch (IllegalStateException e) {
            return -1;
        }
    }
}
