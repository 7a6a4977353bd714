/** The edges of promises 10 to 16: each range, each exception, each answer NONE or 0. */
final class ValuesEdgesTest {
    private static final Check check = new Check();

    public static void main(String[] args) {
        block();
        pulley();
        force();
        pull();
        value();
        work();
        entry();
        check.end();
    }

    /** All answers of block() on one block. */
    private static void tells(RopeTackle x, int block, int... due) {
        for (int what = 0; what < due.length; what++) {
            check.same("block(" + block + ", " + what + ")", x.block(block, what), due[what]);
        }
    }

    private static void block() {
        check.sentence("block: block: 0 to 3", () -> {
            RopeTackle x = Check.reeved("0.3,40,50,60,70", 0, 60000);
            x.haul(30, 18);
            tells(x, 0, 40, 9, 2, 1, 20, 20, 2 * 8991);
            tells(x, 1, 50, 0, 0, 0, -1, -1, 0);
            tells(x, 2, 60, 0, 0, 0, -1, -1, 0);
            tells(x, 3, 70, 0, 1, 0, 70, 70, 9000);
        });
        check.sentence("block: what: 0 its weight, 1 its height, 2 its strands, 3 its pulleys in the row, "
            + "4 its lifting force, 5 its holding force", () -> {
            RopeTackle x = new RopeTackle();
            tells(x, 0, 1000, 0, 2, 1, 584, 434, 18000);
            x.haul(584, 100000);
            tells(x, 0, 1000, 9000, 2, 1, 584, 434, 0);
        });
        check.sentence("block: (NONE for 4 and 5 if it has none)", () -> {
            tells(new RopeTackle(), 1, 1000, 0, 0, 0, RopeTackle.NONE, RopeTackle.NONE, 0);
            RopeTackle x = Check.reeved("0000000000.1,0,50000", 30, 300000);
            check.same("1000000 does not suffice to lift", x.block(1, 4), RopeTackle.NONE);
            check.holds("it suffices to hold", x.block(1, 5) > 0);
            x.setWeight(1, 0);
            check.same("a lifting force of 0 is not none", x.block(1, 4), 0);
            check.same("a holding force of 0 is not none", x.block(1, 5), 0);
        });
        check.sentence("block: 6 the rope that must be hauled until it is at the top: its strands times the way", () -> {
            RopeTackle x = Check.reeved("0000000000.0,0", 0, 300000);
            check.same("the most strands, on the floor", x.block(0, 6), 189000);
            x.haul(0, 100000);
            x.haul(0, 100000);
            check.same("at the top", x.block(0, 6), 0);
            x.letOut(0, 0);
            x.setWeight(0, 1);
            x.letOut(0, 21);
            check.same("1 below the top", x.block(0, 6), 21);
            check.same("hauled", x.haul(1000, x.block(0, 6)), 21);
            check.same("then it is at the top", x.block(0, 1), 9000);
            check.same("without strands", x.block(1, 6), 0);
        });
        check.sentence("block: Throws IndexOutOfBoundsException if there is no such block (0 to 3)", () ->
            check.refusesBeyond(0, 3, "block", Check.INDEX, (x, block) -> x.block(block, 0)));
        check.sentence("block: Throws IllegalArgumentException if what is out of range", () ->
            check.refusesBeyond(0, 6, "block, what", Check.ARGUMENT, (x, what) -> x.block(0, what)));
    }

    private static void pulley() {
        check.sentence("pulley: index: from 0", () -> {
            RopeTackle x = Check.reeved("3210321032.4", 10, 300000);
            for (int index = 0; index < 10; index++) {
                check.same("pulley(" + index + ")", x.pulley(index), 3 - (index & 3));
            }
        });
        check.sentence("pulley: Throws IndexOutOfBoundsException if there are not so many", () -> {
            check.refusesOn(Tackles::bare, "pulley(0) of an empty row", Check.INDEX, x -> x.pulley(0));
            check.refusesOn(RopeTackle::new, "pulley(1) of 1", Check.INDEX, x -> x.pulley(1));
            check.refusesOn(Tackles::full, "pulley(10) of 10", Check.INDEX, x -> x.pulley(10));
            check.refusesOn(Tackles::used, "pulley(5) of 5", Check.INDEX, x -> x.pulley(5));
            check.refusesBeyond(0, 9, "pulley", Check.INDEX, (x, index) -> x.pulley(index));
        });
    }

    private static void force() {
        check.sentence("force: force: the hand's force, 0 to 1000000", () -> {
            RopeTackle x = new RopeTackle();
            check.same("the least, hauled", x.force(0, 2, true), 0);
            check.same("the least, held", x.force(0, 2, false), 0);
            check.same("1, hauled", x.force(1, 2, true), 1);
            check.same("the greatest, hauled", x.force(1000000, 2, true), 810000);
            check.same("the greatest, held", x.force(1000000, 2, false), 1210000);
        });
        check.sentence("force: passed: the pulleys that are passed on the way from the hand, 0 or more", () -> {
            RopeTackle x = Check.reeved("1111111111.0", 0, 300000);
            for (int passed = 0; passed <= 21; passed++) {
                check.same("without friction, behind " + passed, x.force(7, passed, true), 7);
            }
            x.setFriction(10);
            check.same("behind none", x.force(1000, 0, true), 1000);
            check.same("behind one", x.force(1000, 1, true), 900);
            check.same("behind two", x.force(1000, 2, true), 810);
        });
        check.sentence("force: hauled: whether the rope is hauled, otherwise it is held", () -> {
            RopeTackle x = new RopeTackle();
            check.same("hauled", x.force(10, 1, true), 9);
            check.same("held", x.force(10, 1, false), 11);
        });
        check.sentence("force: Throws IllegalArgumentException if force is out of range", () -> {
            check.refusesBeyond(0, 1000000, "force, hauled", Check.ARGUMENT, (x, force) -> x.force(force, 0, true));
            check.refusesBeyond(0, 1000000, "force, held", Check.ARGUMENT, (x, force) -> x.force(force, 0, false));
        });
        check.sentence("force: Throws IllegalArgumentException if .. the rope does not pass so many pulleys", () -> {
            check.refusesBeyond(0, 21, "force, passed", Check.ARGUMENT, (x, passed) -> x.force(5, passed, true));
            check.same("none of none", Tackles.bare().force(5, 0, true), 5);
            check.refusesOn(Tackles::bare, "one of none", Check.ARGUMENT, x -> x.force(5, 1, true));
            check.same("two of two", new RopeTackle().force(5, 2, true), 5);
            check.refusesOn(RopeTackle::new, "three of two", Check.ARGUMENT, x -> x.force(5, 3, false));
            check.same("one of one", Check.reeved(".0", 0, 60000).force(5, 1, true), 5);
            check.refusesOn(() -> Check.reeved(".0", 0, 60000), "two of one", Check.ARGUMENT, x -> x.force(5, 2, true));
            check.same("20 of 20", Check.reeved("0000000000.4", 0, 300000).force(5, 20, true), 5);
            check.refusesOn(() -> Check.reeved("0000000000.4", 0, 300000), "21 of 20", Check.ARGUMENT,
                x -> x.force(5, 21, true));
        });
    }

    private static void pull() {
        check.sentence("pull: block: 0 to 3", () -> {
            RopeTackle x = Check.reeved("0121.3", 10, 300000);
            int[] due = {900 + 810, 729 + 657 + 480 + 432, 592 + 533, 389};
            for (int block = 0; block < 4; block++) {
                check.same("the pull on " + block, x.pull(block, 1000, true), due[block]);
            }
        });
        check.sentence("pull: force: the hand's force, 0 to 1000000", () -> {
            RopeTackle x = new RopeTackle();
            check.same("the least, hauled", x.pull(0, 0, true), 0);
            check.same("the least, held", x.pull(0, 0, false), 0);
            check.same("the greatest, hauled", x.pull(0, 1000000, true), 900000 + 810000);
            check.same("the greatest, held", x.pull(0, 1000000, false), 1100000 + 1210000);
        });
        check.sentence("pull: hauled: whether the rope is hauled, otherwise it is held", () -> {
            RopeTackle x = Check.reeved("0.0", 10, 60000);
            check.same("hauled", x.pull(0, 100, true), 90 + 81 + 73);
            check.same("held", x.pull(0, 100, false), 110 + 121 + 133);
        });
        check.sentence("pull: Returns the pull; 0 without strands", () -> {
            check.same("hauled", new RopeTackle().pull(1, 1000000, true), 0);
            check.same("held", new RopeTackle().pull(1, 1000000, false), 0);
            check.same("an empty row", Tackles.bare().pull(0, 1000000, true), 0);
            check.same("the end alone", Check.reeved(".0", 10, 60000).pull(0, 10, true), 9);
        });
        check.sentence("pull: Throws IndexOutOfBoundsException if there is no such block (0 to 3)", () ->
            check.refusesBeyond(0, 3, "pull", Check.INDEX, (x, block) -> x.pull(block, 5, true)));
        check.sentence("pull: Throws IllegalArgumentException if force is out of range", () -> {
            check.refusesBeyond(0, 1000000, "pull, hauled", Check.ARGUMENT, (x, force) -> x.pull(0, force, true));
            check.refusesBeyond(0, 1000000, "pull, held, no strands", Check.ARGUMENT, (x, force) -> x.pull(3, force, false));
        });
    }

    /** All answers of value(). */
    private static void values(RopeTackle x, int... due) {
        for (int what = 0; what < due.length; what++) {
            check.same("value(" + what + ")", x.value(what), due[what]);
        }
    }

    private static void value() {
        check.sentence("value: what: 0 the length of the rope, .. 9 the entries that are kept in the ledger", () -> {
            values(new RopeTackle(), 60000, 40000, 10, 1, 4, 2, 20000, 0, 0, 0);
            values(Tackles.bare(), 60000, 60000, 10, 0, 4, 0, 0, 0, 0, 0);
            values(Check.reeved("0000000000.0", 30, 210000), 210000, 0, 30, 10, 0, 21, 210000, 0, 0, 0);
            values(Check.reeved("0000000000.4", 0, 300000), 300000, 100000, 0, 10, 4, 20, 200000, 0, 0, 0);
            values(Check.reeved(".3", 1, 10000), 10000, 0, 1, 0, 3, 1, 10000, 0, 0, 0);
        });
        check.sentence("value: 7 the rises so far, 8 the sinkings so far", () -> {
            RopeTackle x = new RopeTackle();
            for (int i = 1; i <= 17; i++) {
                x.haul(1000, 100);
                check.same("the rises", x.value(7), i);
                check.same("the sinkings", x.value(8), i - 1);
                x.letOut(0, 10);
                check.same("the sinkings", x.value(8), i);
                check.same("the entries", x.value(9), Math.min(2 * i, 16));
            }
            x.haul(1000, 1);
            check.same("a rise by 0 is none", x.value(7), 17);
            x.letOut(0, 1);
            check.same("a sinking by 0 is none", x.value(8), 17);
        });
        check.sentence("value: Throws IllegalArgumentException if what is out of range", () ->
            check.refusesBeyond(0, 9, "value", Check.ARGUMENT, (x, what) -> x.value(what)));
    }

    private static void work() {
        check.sentence("work: got: whether the work that was got is asked for, otherwise that which was put in", () -> {
            RopeTackle x = new RopeTackle();
            check.same("put in, nothing", x.work(false), 0);
            check.same("got, nothing", x.work(true), 0);
            x.haul(600, 2);
            check.same("put in", x.work(false), 1200);
            check.same("got", x.work(true), 1000);
        });
        check.sentence("work: Returns the sum so far", () -> {
            RopeTackle x = Check.reeved("0000000000.4,50000", 0, 300000);
            long put = 0;
            long got = 0;
            for (int i = 0; i < 6; i++) {
                put += 1000000L * x.haul(1000000, 100000) + 1000000L * x.haul(1000000, 100000);
                got += 50000L * 9000;
                check.same("put in", x.work(false), put);
                check.same("got", x.work(true), got);
                x.letOut(0, 100000);
                x.letOut(0, 100000);
            }
            check.same("put in, beyond an int", put, 6L * 180000 * 1000000);
            check.same("got, beyond an int", got, 2700000000L);
        });
    }

    private static void entry() {
        check.sentence("entry: index: 0 for the latest one, and so on", () -> {
            RopeTackle x = new RopeTackle();
            for (int i = 1; i <= 33; i++) {
                x.haul(1000, 2 * i);
                for (int index = 0; index < Math.min(i, 16); index++) {
                    check.same("entry(" + index + ", 1) of " + i, x.entry(index, 1), i - index);
                }
            }
        });
        check.sentence("entry: what: 0 the block, 1 the way, negative for a sinking, "
            + "2 the length of rope that was hauled, negative if it was let out", () -> {
            RopeTackle x = Check.reeved(".3,1,1,1,1", 0, 60000);
            x.haul(1, 1);
            x.letOut(0, 1);
            x.haul(1, 9000);
            x.letOut(0, 9000);
            int[] ways = {-9000, 9000, -1, 1};
            for (int index = 0; index < 4; index++) {
                check.same("the block", x.entry(index, 0), 3);
                check.same("the way", x.entry(index, 1), ways[index]);
                check.same("the rope", x.entry(index, 2), ways[index]);
            }
            RopeTackle y = Check.reeved("0000000000.0,1", 0, 300000);
            y.haul(1000, 41);
            y.letOut(0, 41);
            check.same("the way of 21 strands", y.entry(1, 1), 1);
            check.same("the rope of 21 strands", y.entry(1, 2), 21);
            check.same("the way down", y.entry(0, 1), -1);
            check.same("the rope that was let out", y.entry(0, 2), -21);
        });
        check.sentence("entry: Throws IndexOutOfBoundsException if not so many are kept", () -> {
            check.refusesOn(RopeTackle::new, "entry(0) of none", Check.INDEX, x -> x.entry(0, 0));
            check.refusesOn(Tackles::full, "entry(16) of 16", Check.INDEX, x -> x.entry(16, 0));
            check.refusesBeyond(0, 15, "entry", Check.INDEX, (x, index) -> x.entry(index, 0));
            RopeTackle x = new RopeTackle();
            for (int kept = 1; kept <= 16; kept++) {
                int beyond = kept;
                x.haul(1000, 2);
                check.same("the eldest of " + kept, x.entry(kept - 1, 1), 1);
                check.refuses(x, "the one beyond " + kept, Check.INDEX, () -> x.entry(beyond, 1));
            }
            x.haul(1000, 2);
            check.refuses(x, "the one that was dropped", Check.INDEX, () -> x.entry(16, 1));
        });
        check.sentence("entry: Throws IllegalArgumentException if what is out of range", () -> {
            for (int what : new int[] {-1, 3, Integer.MIN_VALUE, Integer.MAX_VALUE}) {
                check.refusesOn(Tackles::full, "the latest one", Check.ARGUMENT, x -> x.entry(0, what));
                check.refusesOn(Tackles::full, "the eldest one", Check.ARGUMENT, x -> x.entry(15, what));
                check.refusesOn(Tackles::used, "the latest one", Check.ARGUMENT, x -> x.entry(0, what));
            }
        });
    }
}
