import java.math.BigInteger;
import java.util.ArrayList;
import java.util.List;
import java.util.function.Supplier;

/** The sentences of "Undo" and "Exceptions", and the edges of promises 27 and 28. */
final class StateEdgesTest {
    private static final Check check = new Check();

    public static void main(String[] args) {
        saving();
        restoring();
        exceptions();
        undo();
        digest();
        check.end();
    }

    /** The call saves a state in a new tackle. */
    private static void saves(String what, Check.Call call) {
        RopeTackle x = new RopeTackle();
        long before = x.digest();
        call.on(x);
        check.same("undo() of " + what, x.undo(), 0);
        check.same("the state after undo() of " + what, x.digest(), before);
    }

    /** Of a tackle with four saved states the call changes nothing that can be seen at once. */
    private static void leaves(Supplier<RopeTackle> maker, String what, Check.Call call) {
        RopeTackle x = maker.get();
        long before = x.digest();
        call.on(x);
        check.same("the state after " + what, x.digest(), before);
        check.same("undo() of " + what, x.undo(), 3);
    }

    private static void savesNot(String what, Check.Call call) {
        RopeTackle x = new RopeTackle();
        call.on(x);
        check.refuses(x, "undo() of " + what, Check.STATE, () -> x.undo());
    }

    private static void saving() {
        check.sentence("Each successful call of a method whose description says \"undoable\" saves the state "
            + "from before the call", () -> {
            saves("setWeight", x -> x.setWeight(0, 5));
            saves("setFriction", x -> x.setFriction(5));
            saves("setLength", x -> x.setLength(50000));
            saves("addPulley", x -> x.addPulley(1));
            saves("takePulley", x -> x.takePulley());
            saves("setEnd", x -> x.setEnd(1));
            saves("haul", x -> x.haul(1000, 100));
        });
        check.sentence("even if the call changes nothing", () -> {
            saves("setWeight", x -> x.setWeight(3, 1000));
            saves("setFriction", x -> x.setFriction(10));
            saves("setLength", x -> x.setLength(60000));
            saves("setEnd", x -> x.setEnd(4));
            saves("haul, nothing", x -> x.haul(0, 0));
            saves("haul, too little force", x -> x.haul(1, 100));
            saves("letOut, nothing", x -> x.letOut(0, 0));
            saves("letOut, on the floor", x -> x.letOut(0, 100));
            RopeTackle x = Check.reeved("0.4", 10, 60000);
            long before = x.digest();
            check.same("parse()", x.parse(), 40000);
            check.same("undo() of parse", x.undo(), 3);
            check.same("the state after undo() of parse", x.digest(), before - 1);
        });
        check.sentence("even if the call changes nothing (what a call does not tell of stays as it was)", () -> {
            for (Supplier<RopeTackle> maker : List.<Supplier<RopeTackle>>of(Tackles::used, Tackles::full)) {
                leaves(maker, "setWeight", x -> x.setWeight(3, x.block(3, 0)));
                leaves(maker, "setFriction", x -> x.setFriction(x.value(2)));
                leaves(maker, "setLength", x -> x.setLength(x.value(0)));
                leaves(maker, "setEnd", x -> x.setEnd(x.value(4)));
                leaves(maker, "haul", x -> x.haul(1000000, 0));
                leaves(maker, "letOut", x -> x.letOut(1000000, 100000));
            }
            RopeTackle x = Tackles.used();
            long before = x.digest();
            check.same("addPulley()", x.addPulley(2), 6);
            check.same("takePulley()", x.takePulley(), 2);
            check.same("the state then", x.digest(), before);
        });
        check.sentence("(what is not undoable, is refused or answers with a fault saves nothing)", () -> {
            savesNot("append", x -> x.append('0'));
            savesNot("clearText", x -> x.clearText());
            savesNot("parse, a fault", x -> x.parse());
            savesNot("values", x -> x.value(0));
            savesNot("what-if questions", x -> x.riseBy(0, 1000, 100));
            savesNot("digest", x -> x.digest());
            check.refusesOn(RopeTackle::new, "setLength", Check.STATE, x -> x.setLength(1000));
        });
        check.sentence("at most 4 states are saved, and the oldest is dropped first", () -> {
            for (int calls = 0; calls <= 11; calls++) {
                RopeTackle x = new RopeTackle();
                for (int i = 1; i <= calls; i++) {
                    x.setWeight(0, i);
                }
                unwound(x, calls);
                // The places of the saved states begin elsewhere then.
                for (int i = 1; i <= 5; i++) {
                    x.setWeight(0, i);
                }
                unwound(x, 5);
            }
        });
        check.sentence("the oldest is dropped first (some undone in between)", () -> {
            RopeTackle x = new RopeTackle();
            for (int i = 1; i <= 6; i++) {
                x.setWeight(0, i);
            }
            x.undo();
            x.undo();
            for (int i = 5; i <= 7; i++) {
                x.setWeight(0, i);
            }
            unwound(x, 7);
        });
    }

    /** The weight of block 0 was set to 1, 2 and so on: undo goes back four times at most. */
    private static void unwound(RopeTackle x, int last) {
        for (int left = Math.min(last, 4) - 1; left >= 0; left--) {
            check.same("undo() of " + last, x.undo(), left);
            int before = last - Math.min(last, 4) + left;
            if (before > 0) {
                check.same("the weight with " + left + " left", x.block(0, 0), before);
            }
        }
        check.refuses(x, "undo() of " + last + ", none is left", Check.STATE, () -> x.undo());
    }

    /** What the tackle answers is another thing behind the call, and the first one again behind undo. */
    private static void restores(String what, Answer answer, Check.Call call) {
        RopeTackle x = Tackles.used();
        long before = answer.of(x);
        call.on(x);
        check.holds(what + " is another one", answer.of(x) != before);
        x.undo();
        check.same(what, answer.of(x), before);
    }

    private interface Answer {
        long of(RopeTackle tackle);
    }

    private static void restoring() {
        check.sentence("The saved state contains everything", () -> {
            restores("the weight", x -> x.block(3, 0), x -> x.setWeight(3, 1));
            restores("the friction", x -> x.value(2), x -> x.setFriction(3));
            restores("the length", x -> x.value(0), x -> x.setLength(150000));
            restores("the number of pulleys", x -> x.value(3), x -> x.addPulley(3));
            restores("the last pulley", x -> x.pulley(x.value(3) - 1), x -> x.addPulley(1));
            restores("the end", x -> x.value(4), x -> x.setEnd(3));
            restores("the height, hauled", x -> x.block(0, 1), x -> x.haul(100000, 10000));
            restores("the height, let out", x -> x.block(0, 1), x -> x.letOut(0, 10000));
            restores("the height, by parse()", x -> x.block(1, 1), x -> x.parse());
            restores("the row, by parse()", x -> x.pulley(0), x -> x.parse());
            restores("the weight, by parse()", x -> x.block(0, 0), x -> x.parse());
            restores("the rises", x -> x.value(7), x -> x.haul(100000, 10000));
            restores("the sinkings", x -> x.value(8), x -> x.letOut(0, 10000));
            restores("the entries", x -> x.value(9), x -> x.haul(100000, 10000));
            restores("the latest entry", x -> x.entry(0, 1), x -> x.haul(100000, 10000));
            restores("the work put in", x -> x.work(false), x -> x.haul(100000, 10000));
            restores("the work got", x -> x.work(true), x -> x.haul(100000, 10000));
        });
        check.sentence("The saved state contains everything (a full ledger, too)", () -> {
            RopeTackle x = Tackles.full();
            int eldest = x.entry(15, 1);
            x.haul(2000, 100);
            x.haul(2000, 200);
            check.holds("the eldest entry is another one", x.entry(15, 1) != eldest);
            x.undo();
            x.undo();
            check.same("the eldest entry", x.entry(15, 1), eldest);
            check.same("the entries", x.value(9), 16);
        });
        check.sentence("except the text", () -> {
            RopeTackle x = new RopeTackle();
            Check.write(x, "0.4");
            x.setWeight(0, 5);
            x.append('5');
            x.undo();
            check.same("what was appended stays", x.parse(), -13);
            x.setWeight(0, 5);
            check.same("clearText()", x.clearText(), 4);
            x.undo();
            check.same("what was taken stays away", x.clearText(), 0);
        });
    }

    private static void exceptions() {
        check.sentence("A call that throws an exception changes nothing", () -> {
            for (Supplier<RopeTackle> maker : Tackles.UNLIKE) {
                check.refusesOn(maker, "setWeight", Check.ARGUMENT, x -> x.setWeight(0, 50001));
                check.refusesOn(maker, "setFriction", Check.ARGUMENT, x -> x.setFriction(31));
                check.refusesOn(maker, "setLength", Check.ARGUMENT, x -> x.setLength(999));
                check.refusesOn(maker, "addPulley", Check.INDEX, x -> x.addPulley(4));
                check.refusesOn(maker, "setEnd", Check.INDEX, x -> x.setEnd(5));
                check.refusesOn(maker, "haul", Check.ARGUMENT, x -> x.haul(1000000, 100001));
                check.refusesOn(maker, "letOut", Check.ARGUMENT, x -> x.letOut(0, 100001));
                check.refusesOn(maker, "append", Check.ARGUMENT, x -> x.append(128));
                check.refusesOn(maker, "riseBy", Check.ARGUMENT, x -> x.riseBy(0, 1000000, 100001));
                check.refusesOn(maker, "swapped", Check.INDEX, x -> x.swapped(0, 0, 10));
            }
            check.refusesOn(RopeTackle::new, "setLength, too short", Check.STATE, x -> x.setLength(19999));
            check.refusesOn(() -> Check.reeved("0.4", 10, 20000), "addPulley, too short", Check.STATE, x -> x.addPulley(1));
            check.refusesOn(() -> Check.reeved("0.4", 10, 20000), "setEnd, too short", Check.STATE, x -> x.setEnd(1));
            check.refusesOn(Tackles::full, "addPulley, 10 are there", Check.STATE, x -> x.addPulley(1));
            check.refusesOn(Tackles::full, "append, 60 are there", Check.STATE, x -> x.append('0'));
            check.refusesOn(Tackles::bare, "takePulley, none is there", Check.STATE, x -> x.takePulley());
            check.refusesOn(RopeTackle::new, "undo, nothing is saved", Check.STATE, x -> x.undo());
        });
        check.sentence("If several exceptions apply, the one that is listed first is thrown", () -> {
            check.refusesAlways("setWeight(4, -1)", Check.INDEX, x -> x.setWeight(4, -1));
            check.refusesAlways("setWeight(-1, 50001)", Check.INDEX, x -> x.setWeight(-1, 50001));
            check.refusesAlways("setLength(999)", Check.ARGUMENT, x -> x.setLength(999));
            check.refusesOn(Tackles::full, "addPulley(4), 10 are there", Check.INDEX, x -> x.addPulley(4));
            check.refusesOn(() -> Check.reeved("0.4", 10, 20000), "addPulley(-1), too short", Check.INDEX,
                x -> x.addPulley(-1));
            check.refusesOn(() -> Check.reeved("0.4", 10, 20000), "setEnd(5), too short", Check.INDEX, x -> x.setEnd(5));
            check.refusesAlways("block(4, 7)", Check.INDEX, x -> x.block(4, 7));
            check.refusesAlways("block(-1, -1)", Check.INDEX, x -> x.block(-1, -1));
            check.refusesAlways("pull(4, -1, true)", Check.INDEX, x -> x.pull(4, -1, true));
            check.refusesAlways("pull(-1, 1000001, false)", Check.INDEX, x -> x.pull(-1, 1000001, false));
            check.refusesAlways("entry(16, 3)", Check.INDEX, x -> x.entry(16, 3));
            check.refusesAlways("entry(-1, -1)", Check.INDEX, x -> x.entry(-1, -1));
            check.refusesAlways("pulleysFor(4, -1)", Check.INDEX, x -> x.pulleysFor(4, -1));
            check.refusesAlways("pulleysFor(-1, 1000001)", Check.INDEX, x -> x.pulleysFor(-1, 1000001));
            check.refusesAlways("riseBy(4, -1, 0)", Check.INDEX, x -> x.riseBy(4, -1, 0));
            check.refusesAlways("riseBy(-1, 0, 100001)", Check.INDEX, x -> x.riseBy(-1, 0, 100001));
            check.refusesOn(Tackles::full, "append(128), 60 are there", Check.ARGUMENT, x -> x.append(128));
            check.refusesOn(Tackles::full, "append(-1), 60 are there", Check.ARGUMENT, x -> x.append(-1));
        });
    }

    private static void undo() {
        check.sentence("undo: Restores the most recently saved state and removes it from the saved states", () -> {
            RopeTackle x = new RopeTackle();
            x.setWeight(0, 5);
            x.haul(1000, 200);
            x.setFriction(3);
            x.undo();
            check.same("the friction", x.value(2), 10);
            check.same("the height", x.block(0, 1), 100);
            x.undo();
            check.same("the height before", x.block(0, 1), 0);
            check.same("the weight", x.block(0, 0), 5);
            x.undo();
            check.same("the weight before", x.block(0, 0), 1000);
        });
        check.sentence("undo: Returns the number of saved states that remain", () -> {
            RopeTackle x = Tackles.full();
            for (int left = 3; left >= 0; left--) {
                check.same("undo()", x.undo(), left);
            }
            x.setFriction(1);
            check.same("undo() of a state that was saved since", x.undo(), 0);
        });
        check.sentence("undo: Throws IllegalStateException if there is no saved state", () -> {
            check.refusesOn(RopeTackle::new, "a new tackle", Check.STATE, x -> x.undo());
            check.refusesOn(StateEdgesTest::unwound, "all are undone", Check.STATE, x -> x.undo());
        });
    }

    private static RopeTackle unwound() {
        RopeTackle x = Tackles.full();
        for (int i = 0; i < 4; i++) {
            x.undo();
        }
        return x;
    }

    /** The values that the digest is made of; the length of the text and the saved states are told. */
    private static List<Long> values(RopeTackle x, int text, int saved) {
        List<Long> all = new ArrayList<>();
        all.add((long) text);
        for (int what = 0; what <= 9; what++) {
            all.add((long) x.value(what));
        }
        all.add(x.work(false));
        all.add(x.work(true));
        for (int block = 0; block < 4; block++) {
            for (int what = 0; what <= 6; what++) {
                all.add((long) x.block(block, what));
            }
        }
        for (int index = 0; index < x.value(3); index++) {
            all.add((long) x.pulley(index));
        }
        for (int index = 0; index < x.value(9); index++) {
            for (int what = 0; what <= 2; what++) {
                all.add((long) x.entry(index, what));
            }
        }
        all.add((long) saved);
        return all;
    }

    /** The hash as a whole number without a bound. */
    private static BigInteger hash(List<Long> values) {
        BigInteger h = BigInteger.valueOf(3623);
        for (long value : values) {
            h = h.multiply(BigInteger.valueOf(31)).add(BigInteger.valueOf(value));
        }
        return h;
    }

    private static void digests(RopeTackle x, int text, int saved, int count) {
        List<Long> values = values(x, text, saved);
        check.same("the number of values", values.size(), count);
        check.same("digest()", x.digest(), hash(values).longValue());
    }

    private static void digest() {
        check.sentence("digest: Start with h = 3623 and, for each of the following values v, set h = 31 * h + v", () -> {
            // 42 values and those of the row, the ledger and the saved states' number.
            digests(new RopeTackle(), 0, 0, 43);
            digests(Tackles.bare(), 0, 1, 42);
            digests(Tackles.full(), 60, 4, 42 + 10 + 48);
            RopeTackle used = Tackles.used();
            digests(used, 6, 4, 42 + 5 + 3 * used.value(9));
        });
        check.sentence("digest: the length of the text", () -> {
            for (int length = 0; length <= 60; length++) {
                RopeTackle x = new RopeTackle();
                Check.write(x, "0".repeat(length));
                digests(x, length, 0, 43);
                x.clearText();
                digests(x, 0, 0, 43);
            }
        });
        check.sentence("digest: work(false), work(true)", () -> {
            RopeTackle x = Check.reeved("0.4,50000", 0, 60000);
            for (int i = 0; i < 10; i++) {
                x.haul(1000000, 18000);
                x.letOut(0, 18000);
            }
            check.holds("both are beyond an int", x.work(false) > Integer.MAX_VALUE && x.work(true) > Integer.MAX_VALUE);
            digests(x, 9, 4, 43 + 48);
        });
        check.sentence("digest: for each pulley of the row its block", () -> {
            for (int count = 0; count <= 10; count++) {
                digests(Check.reeved("0123012301".substring(0, count) + ".4", 10, 300000),
                    count + 2, 4, 42 + count);
            }
        });
        check.sentence("digest: for each entry that is kept", () -> {
            for (int entries = 0; entries <= 18; entries++) {
                RopeTackle x = new RopeTackle();
                for (int i = 1; i <= entries; i++) {
                    x.haul(1000, 2 * i);
                }
                digests(x, 0, Math.min(entries, 4), 43 + 3 * Math.min(entries, 16));
            }
        });
        check.sentence("digest: the number of saved states", () -> {
            for (int calls = 0; calls <= 6; calls++) {
                RopeTackle x = new RopeTackle();
                for (int i = 0; i < calls; i++) {
                    x.setFriction(0);
                }
                for (int left = Math.min(calls, 4); left >= 0; left--) {
                    digests(x, 0, left, 43);
                    if (left > 0) {
                        x.undo();
                    }
                }
            }
        });
        check.sentence("digest: Returns the hash, with the overflow of long arithmetic ignored", () -> {
            boolean below = false;
            boolean above = false;
            for (int friction = 0; friction <= 30; friction++) {
                RopeTackle x = Tackles.full();
                x.setFriction(friction);
                BigInteger whole = hash(values(x, 60, 4));
                check.holds("the whole hash is beyond a long", whole.abs().bitLength() > 63);
                check.same("digest()", x.digest(), whole.longValue());
                below |= x.digest() < 0;
                above |= x.digest() > 0;
            }
            check.holds("some are below 0, some above", below && above);
        });
        check.sentence("digest: (asked twice it is the same)", () -> {
            RopeTackle x = Tackles.full();
            check.same("digest()", x.digest(), x.digest());
            check.changesNothing(Tackles::used, "digest()", one -> one.digest());
        });
    }
}
