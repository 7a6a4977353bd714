/** Promises 27 and 28: undo and digest. */
final class StateTest {
    private static final Check check = new Check();

    public static void main(String[] args) {
        undoEach();
        undoFour();
        undoLedger();
        undoSaves();
        digest();
        digestParts();
        check.end();
    }

    private static void undoes(String what, Check.Call call) {
        RopeTackle x = Check.reeved("01.4,700,900", 10, 100000);
        x.haul(1000, 5000);
        long before = x.digest();
        call.on(x);
        check.holds(what + " changes something", x.digest() != before);
        check.same("undo of " + what, x.undo(), 3);
        // The digest's last value is the number of saved states, which was 4.
        check.same("the state after undo of " + what, x.digest(), before - 1);
    }

    private static void undoEach() {
        undoes("setWeight", x -> x.setWeight(1, 5));
        undoes("setFriction", x -> x.setFriction(3));
        undoes("setLength", x -> x.setLength(70000));
        undoes("addPulley", x -> x.addPulley(2));
        undoes("takePulley", x -> x.takePulley());
        undoes("setEnd", x -> x.setEnd(0));
        undoes("haul", x -> x.haul(1000, 50));
        undoes("letOut", x -> x.letOut(0, 50));
        undoes("parse", x -> x.parse());
    }

    private static void undoFour() {
        RopeTackle x = new RopeTackle();
        check.refuses(x, "undo(), nothing is saved", Check.STATE, () -> x.undo());
        for (int i = 1; i <= 6; i++) {
            x.setWeight(0, i);
        }
        for (int i = 5; i >= 2; i--) {
            check.same("undo()", x.undo(), i - 2);
            check.same("the weight then", x.block(0, 0), i);
        }
        check.refuses(x, "undo(), the oldest are dropped", Check.STATE, () -> x.undo());
        x.setFriction(10);
        check.same("undo() of a call that changed nothing", x.undo(), 0);
    }

    private static void undoLedger() {
        RopeTackle x = new RopeTackle();
        for (int i = 1; i <= 18; i++) {
            x.haul(1000, 2 * i);
        }
        x.letOut(0, 100);
        check.same("undo()", x.undo(), 3);
        check.same("the latest entry again", x.entry(0, 1), 18);
        check.same("the eldest entry again", x.entry(15, 1), 3);
        check.same("the sinkings again", x.value(8), 0);
        check.same("undo()", x.undo(), 2);
        check.same("the latest entry ahead of it", x.entry(0, 1), 17);
        check.same("the eldest entry ahead of it", x.entry(15, 1), 2);
        check.same("the work ahead of it", x.work(true), 1000L * 17 * 18 / 2);
    }

    /** Calls that throw, ask or write the text save nothing. */
    private static void undoSaves() {
        RopeTackle x = new RopeTackle();
        check.refuses(x, "setWeight(4, 0)", Check.INDEX, () -> x.setWeight(4, 0));
        check.refuses(x, "setLength(1000)", Check.STATE, () -> x.setLength(1000));
        x.append('0');
        check.same("parse(), a fault", x.parse(), -11);
        x.clearText();
        x.first();
        x.forceForAll();
        x.pulleysFor(0, 5);
        x.bestEnd(0);
        x.swapped(0, 0, 0);
        x.riseBy(0, 1000, 1000);
        check.refuses(x, "undo(), nothing is saved", Check.STATE, () -> x.undo());
        x.setWeight(0, 1);
        Check.write(x, "abc");
        check.same("undo(), but not of the text", x.undo(), 0);
        check.same("the text", x.clearText(), 3);
    }

    private static long hash(long... values) {
        long h = 3623;
        for (long value : values) {
            h = 31 * h + value;
        }
        return h;
    }

    private static void digest() {
        RopeTackle x = new RopeTackle();
        check.same("digest(), new", x.digest(), hash(
            0,
            60000, 40000, 10, 1, 4, 2, 20000, 0, 0, 0,
            0, 0,
            1000, 0, 2, 1, 584, 434, 18000,
            1000, 0, 0, 0, -1, -1, 0,
            1000, 0, 0, 0, -1, -1, 0,
            1000, 0, 0, 0, -1, -1, 0,
            0,
            0));
        Check.write(x, "ab");
        x.setFriction(0);
        x.addPulley(3);
        x.haul(501, 101);
        x.letOut(1, 20);
        x.undo();
        x.letOut(2, 10);
        check.same("digest(), used", x.digest(), hash(
            2,
            60000, 20090, 0, 2, 4, 4, 39910, 1, 1, 2,
            50100, 50000,
            1000, 45, 2, 1, 500, 500, 17910,
            1000, 0, 0, 0, -1, -1, 0,
            1000, 0, 0, 0, -1, -1, 0,
            1000, 0, 2, 1, 500, 500, 18000,
            0, 3,
            0, -5, -10, 0, 50, 100,
            4));
    }

    /** Each thing that the digest tells of makes it another one. */
    private static void digestParts() {
        long[] seen = new long[8];
        for (int i = 0; i < seen.length; i++) {
            RopeTackle x = new RopeTackle();
            switch (i) {
                case 0: x.append('0'); break;
                case 1: x.setWeight(3, 999); break;
                case 2: x.setFriction(9); break;
                case 3: x.setLength(60001); break;
                case 4: x.addPulley(1); break;
                case 5: x.takePulley(); break;
                case 6: x.setEnd(2); break;
                default: x.haul(0, 0); break;
            }
            seen[i] = x.digest();
            for (int k = 0; k < i; k++) {
                check.holds("digests " + k + " and " + i + " differ", seen[k] != seen[i]);
            }
        }
    }
}
