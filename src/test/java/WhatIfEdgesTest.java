import java.util.function.Supplier;

/** The edges of promises 17 to 23: each range, each exception, each answer NONE or 0; they change nothing. */
final class WhatIfEdgesTest {
    private static final Check check = new Check();

    public static void main(String[] args) {
        first();
        forceForAll();
        pulleysFor();
        bestEnd();
        swapped();
        riseBy();
        efficiency();
        nothingChanges();
        check.end();
    }

    private static void first() {
        check.sentence("first: Returns the block below the top with the least lifting force", () -> {
            RopeTackle x = Check.reeved("0123.4,400,300,200,100", 0, 100000);
            check.same("the last one", x.first(), 3);
            x.haul(50, 17998);
            check.same("1 below the top", x.first(), 3);
            x.haul(50, 2);
            check.same("at the top", x.first(), 2);
            x.setWeight(0, 0);
            check.same("no weight", x.first(), 0);
            check.same("only 0 has strands", new RopeTackle().first(), 0);
        });
        check.sentence("first: Finds the block that would rise first, if the rope was hauled with a force that suffices", () -> {
            RopeTackle x = Check.reeved("0123.4,300,100,400,200", 0, 100000);
            for (int rises = 0; rises < 4; rises++) {
                int first = x.first();
                check.same("it rises", x.haul(1000000, 18000), 18000);
                check.same("the block that rose", x.entry(0, 0), first);
            }
            check.same("none rises", x.first(), RopeTackle.NONE);
        });
        check.sentence("first: of several the lowest one", () -> {
            check.same("of all", Check.reeved("3210.4,100,100,100,100", 0, 100000).first(), 0);
            check.same("of the last two", Check.reeved("3210.4,101,101,99,99", 0, 100000).first(), 2);
            check.same("of lifting forces of 0", Check.reeved("32.4,0,0,0,0", 10, 100000).first(), 2);
        });
        check.sentence("first: NONE if none has one", () -> {
            check.same("no strands", Tackles.bare().first(), RopeTackle.NONE);
            RopeTackle x = new RopeTackle();
            x.haul(1000, 18000);
            check.same("at the top", x.first(), RopeTackle.NONE);
            RopeTackle y = Check.reeved("00000000.1,0,18185", 21, 300000);
            y.haul(0, 100000);
            y.haul(0, 100000);
            check.same("1000000 suffices", y.first(), 1);
            y.setWeight(1, 18186);
            check.same("1000000 does not suffice", y.first(), RopeTackle.NONE);
            RopeTackle most = Check.reeved("0000001.4,0,41579", 25, 300000);
            most.haul(0, 100000);
            most.haul(0, 100000);
            check.same("the greatest lifting force, 999995", most.first(), 1);
        });
    }

    private static void forceForAll() {
        check.sentence("forceForAll: Returns the greatest lifting force of those of them that are below the top", () -> {
            RopeTackle x = Check.reeved("0123.4,100,400,200,300", 0, 100000);
            check.same("all on the floor", x.forceForAll(), 200);
            check.same("one less does not haul all", x.riseBy(1, 199, 100000), 0);
            check.same("it hauls all", x.riseBy(1, 200, 100000), 9000);
            x.haul(200, 71998);
            check.same("1 below the top", x.forceForAll(), 200);
            RopeTackle y = Check.reeved("01.4,400,100", 0, 100000);
            y.haul(50, 18000);
            check.same("the lightest one is at the top", y.forceForAll(), 200);
            y.setWeight(1, 50000);
            check.same("one at the top does not count", y.forceForAll(), 200);
            check.same("one without strands does not count", new RopeTackle().forceForAll(), 584);
        });
        check.sentence("forceForAll: Tells the least force with which all blocks that have strands "
            + "could be hauled to the top, one after the other", () -> {
            RopeTackle x = Check.reeved("0123.4,300,100,400,200", 0, 100000);
            int force = x.forceForAll();
            check.same("one less does not do", x.haul(force - 1, 100000), 54000);
            x.undo();
            check.same("it does", x.haul(force, 100000), 72000);
        });
        check.sentence("forceForAll: 0 if there are none", () -> {
            check.same("no strands", Tackles.bare().forceForAll(), 0);
            RopeTackle x = new RopeTackle();
            x.haul(1000, 18000);
            check.same("all at the top", x.forceForAll(), 0);
            check.same("a lifting force of 0", Check.reeved("0.4,0", 10, 60000).forceForAll(), 0);
        });
        check.sentence("forceForAll: NONE if one of these has none", () -> {
            RopeTackle x = Check.reeved("00000000.1,0,18185", 21, 300000);
            check.same("1000000 suffices", x.forceForAll(), x.block(1, 4));
            x.setWeight(1, 18186);
            check.same("1000000 does not suffice", x.forceForAll(), RopeTackle.NONE);
            RopeTackle y = Check.reeved("1111111110.4,18186,0,0,0", 30, 300000);
            check.same("the first of them has none", y.forceForAll(), RopeTackle.NONE);
            y.setWeight(0, 0);
            y.haul(0, 18000);
            y.setWeight(0, 18186);
            check.same("it is at the top", y.forceForAll(), 0);
        });
    }

    private static void pulleysFor() {
        check.sentence("pulleysFor: with an empty row ahead of them and the beam as the end, "
            + "would do to lift the block with a force", () -> {
            RopeTackle x = Check.reeved("1111111110.0,1000", 10, 300000);
            check.same("with the lifting force of one pulley", x.pulleysFor(0, 584), 1);
            check.same("one less", x.pulleysFor(0, 583), 2);
            check.same("the rope is too short", Check.reeved(".4,1000", 0, 1000).pulleysFor(0, 50), 10);
            check.same("the block is at the top", risen().pulleysFor(0, 50), 10);
        });
        check.sentence("pulleysFor: block: 0 to 3", () -> {
            RopeTackle x = Check.reeved(".4,100,300,500,700", 0, 60000);
            for (int block = 0; block < 4; block++) {
                check.same("for " + block, x.pulleysFor(block, 50), 1 + 2 * block);
            }
        });
        check.sentence("pulleysFor: force: 0 to 1000000", () -> {
            RopeTackle x = new RopeTackle();
            check.same("the greatest", x.pulleysFor(0, 1000000), 1);
            check.same("the least", x.pulleysFor(0, 0), RopeTackle.NONE);
            x.setWeight(0, 0);
            check.same("the least, no weight", x.pulleysFor(0, 0), 1);
            x.setWeight(0, 2);
            check.same("1", x.pulleysFor(0, 1), 1);
        });
        check.sentence("pulleysFor: Returns the least number, 1 to 10", () -> {
            RopeTackle x = Check.reeved("0.4,0", 0, 60000);
            check.same("no weight", x.pulleysFor(0, 50), 1);
            for (int count = 1; count <= 10; count++) {
                x.setWeight(0, 100 * count);
                check.same("just so many", x.pulleysFor(0, 50), count);
                x.setWeight(0, 100 * count - 99);
                check.same("one less is too few", x.pulleysFor(0, 50), count);
            }
        });
        check.sentence("pulleysFor: NONE if 10 do not do", () -> {
            RopeTackle x = Check.reeved("0.4,1000", 0, 60000);
            check.same("10 do", x.pulleysFor(0, 50), 10);
            x.setWeight(0, 1001);
            check.same("10 do not", x.pulleysFor(0, 50), RopeTackle.NONE);
            check.same("one more does", x.pulleysFor(0, 51), 10);
        });
        check.sentence("pulleysFor: Throws IndexOutOfBoundsException if there is no such block (0 to 3)", () ->
            check.refusesBeyond(0, 3, "pulleysFor", Check.INDEX, (x, block) -> x.pulleysFor(block, 50)));
        check.sentence("pulleysFor: Throws IllegalArgumentException if force is out of range", () ->
            check.refusesBeyond(0, 1000000, "pulleysFor", Check.ARGUMENT, (x, force) -> x.pulleysFor(1, force)));
    }

    /** Without friction, and block 0 at the top. */
    private static RopeTackle risen() {
        RopeTackle x = Check.reeved("0.4,1000", 0, 60000);
        x.haul(1000, 18000);
        return x;
    }

    private static void bestEnd() {
        check.sentence("bestEnd: Finds the end with which the lifting force of a block would be least", () -> {
            RopeTackle x = Check.reeved("0123.4", 0, 100000);
            for (int block = 0; block < 4; block++) {
                check.same("for " + block, x.bestEnd(block), block);
            }
            x.setEnd(2);
            check.same("all else as it is: with another end", x.bestEnd(3), 3);
            check.same("all else as it is: an empty row", Tackles.bare().bestEnd(3), 3);
        });
        check.sentence("bestEnd: whatever the hand would have", () -> {
            RopeTackle x = Check.reeved("0.4", 0, 20000);
            check.same("the hand has nothing", x.bestEnd(0), 0);
            check.same("the hand has nothing, no strands", x.bestEnd(3), 3);
            check.same("the shortest rope", Check.reeved(".4", 0, 1000).bestEnd(1), 1);
        });
        check.sentence("bestEnd: Returns the end, of several the lowest one", () -> {
            RopeTackle x = Check.reeved("1.4,0,0,0,0", 10, 60000);
            check.same("no weight", x.bestEnd(1), 0);
            x.setWeight(1, 1);
            check.same("1 newton", x.bestEnd(1), 0);
            x.setWeight(1, 2);
            check.same("1 newton in both strands", x.bestEnd(1), 0);
            x.setWeight(1, 3);
            check.same("1 newton in three strands", x.bestEnd(1), 1);
        });
        check.sentence("bestEnd: NONE if it would have none with each", () -> {
            // Behind 17 pulleys at 21 percent, 1000000 is 18185.
            RopeTackle x = Check.reeved("00000000.4,0,18185", 21, 300000);
            check.same("with one", x.bestEnd(1), 1);
            x.setWeight(1, 18186);
            check.same("with none", x.bestEnd(1), RopeTackle.NONE);
        });
        check.sentence("bestEnd: Throws IndexOutOfBoundsException if there is no such block (0 to 3)", () -> {
            check.refusesBeyond(0, 3, "bestEnd", Check.INDEX, (x, block) -> x.bestEnd(block));
            check.refusesAlways("the beam is no block", Check.INDEX, x -> x.bestEnd(RopeTackle.BEAM));
        });
    }

    private static void swapped() {
        check.sentence("swapped: Tells the lifting force of a block if two pulleys of the row changed places", () -> {
            RopeTackle x = Check.reeved("0222222221.4,1000,1000", 10, 300000);
            check.same("the first one", x.block(0, 4), 584);
            check.same("the first and the last", x.swapped(0, 0, 9), x.block(1, 4));
            check.same("the last and the first", x.swapped(1, 9, 0), 584);
            check.same("one with itself", x.swapped(0, 0, 0), 584);
            check.same("the last with itself", x.swapped(1, 9, 9), x.block(1, 4));
            check.same("two of the same block", x.swapped(0, 1, 8), 584);
        });
        check.sentence("swapped: Returns the force; NONE if it would have none", () -> {
            RopeTackle x = Check.reeved("1000000000.4,0,50000", 30, 300000);
            check.holds("as it is it has one", x.block(1, 4) > 0);
            check.same("at the other end of the row", x.swapped(1, 0, 9), RopeTackle.NONE);
            check.same("no strands", x.swapped(2, 0, 9), RopeTackle.NONE);
            check.same("no weight", x.swapped(0, 0, 9), 0);
        });
        check.sentence("swapped: first: the index of a pulley", () -> {
            for (int index = 0; index < 10; index++) {
                RopeTackle x = onlyOneOf1(index);
                check.same("it comes first", x.swapped(1, index, 0), 584);
            }
        });
        check.sentence("swapped: second: the index of a pulley", () -> {
            for (int index = 0; index < 10; index++) {
                RopeTackle x = onlyOneOf1(index);
                check.same("it comes first", x.swapped(1, 0, index), 584);
            }
        });
        check.sentence("swapped: Throws IndexOutOfBoundsException if there is no such block", () ->
            check.refusesBeyond(0, 3, "swapped", Check.INDEX, (x, block) -> x.swapped(block, 0, 0)));
        check.sentence("swapped: Throws IndexOutOfBoundsException if there is no such .. pulley", () -> {
            check.refusesBeyond(0, 9, "the first one", Check.INDEX, (x, index) -> x.swapped(0, index, 0));
            check.refusesBeyond(0, 9, "the second one", Check.INDEX, (x, index) -> x.swapped(0, 0, index));
            check.refusesBeyond(0, 9, "both", Check.INDEX, (x, index) -> x.swapped(0, index, index));
            check.refusesOn(Tackles::bare, "an empty row", Check.INDEX, x -> x.swapped(0, 0, 0));
            check.refusesOn(RopeTackle::new, "the first of 1", Check.INDEX, x -> x.swapped(0, 1, 0));
            check.refusesOn(RopeTackle::new, "the second of 1", Check.INDEX, x -> x.swapped(0, 0, 1));
            check.refusesOn(Tackles::used, "the first of 5", Check.INDEX, x -> x.swapped(0, 5, 0));
            check.refusesOn(Tackles::used, "the second of 5", Check.INDEX, x -> x.swapped(0, 0, 5));
            check.same("the only one", new RopeTackle().swapped(0, 0, 0), 584);
        });
    }

    /** Ten pulleys, and the one with the index is on block 1. */
    private static RopeTackle onlyOneOf1(int index) {
        return Check.reeved("0".repeat(index) + "1" + "0".repeat(9 - index) + ".4", 10, 300000);
    }

    private static void riseBy() {
        check.sentence("riseBy: Tells how far a block would rise by a hauling, "
            + "with all that would come ahead of it and behind it", () -> {
            RopeTackle x = Check.reeved("0123.4,100,200,300,400", 0, 100000);
            for (int block = 0; block < 4; block++) {
                check.same("too little rope for it", x.riseBy(block, 1000, 18000 * block + 1), 0);
                check.same("just enough", x.riseBy(block, 1000, 18000 * block + 2), 1);
                check.same("1 below the top", x.riseBy(block, 1000, 18000 * block + 17999), 8999);
                check.same("up to the top", x.riseBy(block, 1000, 18000 * block + 18000), 9000);
                check.same("and others behind it", x.riseBy(block, 1000, 100000), 9000);
            }
        });
        check.sentence("riseBy: block: 0 to 3", () -> {
            RopeTackle x = Check.reeved("0.3,0,0,0,0", 0, 60000);
            check.same("the first one", x.riseBy(0, 0, 18000 + 5), 9000);
            check.same("no strands", x.riseBy(1, 0, 18000 + 5), 0);
            check.same("the last one", x.riseBy(3, 0, 18000 + 5), 5);
        });
        check.sentence("riseBy: force: 0 to 1000000", () -> {
            RopeTackle x = Check.reeved("0.4,2", 0, 60000);
            check.same("the least", x.riseBy(0, 0, 100), 0);
            check.same("as much as it needs", x.riseBy(0, 1, 100), 50);
            check.same("the greatest", x.riseBy(0, 1000000, 100), 50);
        });
        check.sentence("riseBy: length: 0 to 100000", () -> {
            RopeTackle x = Check.reeved("0000000000.4,0", 0, 300000);
            check.same("the least", x.riseBy(0, 0, 0), 0);
            check.same("the greatest", x.riseBy(0, 0, 100000), 5000);
            check.same("one less", x.riseBy(0, 0, 99999), 4999);
        });
        check.sentence("riseBy: Returns the way", () -> {
            RopeTackle x = new RopeTackle();
            x.haul(1000, 17998);
            check.same("1 below the top", x.riseBy(0, 1000, 100000), 1);
            x.haul(1000, 2);
            check.same("at the top", x.riseBy(0, 1000, 100000), 0);
        });
        check.sentence("riseBy: Throws IndexOutOfBoundsException if there is no such block (0 to 3)", () ->
            check.refusesBeyond(0, 3, "riseBy", Check.INDEX, (x, block) -> x.riseBy(block, 1000, 100)));
        check.sentence("riseBy: Throws IllegalArgumentException if force or length is out of range", () -> {
            check.refusesBeyond(0, 1000000, "riseBy, force", Check.ARGUMENT, (x, force) -> x.riseBy(0, force, 100));
            check.refusesBeyond(0, 100000, "riseBy, length", Check.ARGUMENT, (x, length) -> x.riseBy(0, 1000, length));
            check.refusesAlways("riseBy, both", Check.ARGUMENT, x -> x.riseBy(3, -1, 100001));
        });
    }

    private static void efficiency() {
        check.sentence("efficiency: Returns the work that was got, converted to double, "
            + "divided by that which was put in, converted to double", () -> {
            RopeTackle x = new RopeTackle();
            x.haul(584, 2);
            check.sameDouble("not rounded", x.efficiency(), 1000.0 / 1168.0);
            RopeTackle all = Check.reeved(".0,1", 0, 60000);
            all.haul(1, 1);
            check.sameDouble("all of it", all.efficiency(), 1.0);
            RopeTackle least = Check.reeved(".0,1", 0, 60000);
            least.haul(1000000, 1);
            check.sameDouble("the least share", least.efficiency(), 1.0 / 1000000.0);
        });
        check.sentence("efficiency: 0.0 if this is 0", () -> {
            RopeTackle x = new RopeTackle();
            check.sameDouble("no work", x.efficiency(), 0.0);
            x.setWeight(0, 0);
            x.haul(0, 100);
            check.sameDouble("a hauling with no force", x.efficiency(), 0.0);
            x.haul(1, 2);
            check.sameDouble("work put in, none got", x.efficiency(), 0.0);
            x.undo();
            x.undo();
            check.sameDouble("undone", x.efficiency(), 0.0);
        });
    }

    private static void nothingChanges() {
        check.sentence("Tells how far a block would rise by a hauling (and changes nothing, as all what-if questions)", () -> {
            for (Supplier<RopeTackle> maker : Tackles.UNLIKE) {
                check.changesNothing(maker, "first", x -> x.first());
                check.changesNothing(maker, "forceForAll", x -> x.forceForAll());
                check.changesNothing(maker, "efficiency", x -> x.efficiency());
                for (int block = 0; block < 4; block++) {
                    int one = block;
                    check.changesNothing(maker, "pulleysFor", x -> x.pulleysFor(one, 300));
                    check.changesNothing(maker, "bestEnd", x -> x.bestEnd(one));
                    check.changesNothing(maker, "riseBy", x -> x.riseBy(one, 1000000, 100000));
                }
            }
            check.changesNothing(Tackles::used, "swapped", x -> x.swapped(0, 0, 4));
            check.changesNothing(Tackles::full, "swapped", x -> x.swapped(0, 0, 9));
        });
    }
}
