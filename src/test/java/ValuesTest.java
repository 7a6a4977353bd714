/** Promises 10 to 16: the values. */
final class ValuesTest {
    private static final Check check = new Check();

    public static void main(String[] args) {
        block();
        leastForces();
        pulley();
        force();
        pull();
        value();
        work();
        entry();
        check.end();
    }

    private static void block() {
        RopeTackle x = Check.reeved("0102.1,100,200,300,400", 10, 100000);
        x.haul(60, 12);
        int[][] due = {{100, 3, 4, 2}, {200, 0, 3, 1}, {300, 0, 2, 1}, {400, 0, 0, 0}};
        int[] ropes = {4 * 8997, 3 * 9000, 2 * 9000, 0};
        for (int block = 0; block < 4; block++) {
            for (int what = 0; what < 4; what++) {
                check.same("block(" + block + ", " + what + ")", x.block(block, what), due[block][what]);
            }
            check.same("block(" + block + ", 6)", x.block(block, 6), ropes[block]);
        }
        check.same("block(3, 4), no strands", x.block(3, 4), RopeTackle.NONE);
        check.same("block(3, 5), no strands", x.block(3, 5), RopeTackle.NONE);
        check.refuses(x, "block(-1, 0)", Check.INDEX, () -> x.block(-1, 0));
        check.refuses(x, "block(4, 0)", Check.INDEX, () -> x.block(4, 0));
        check.refuses(x, "block(4, 7)", Check.INDEX, () -> x.block(4, 7));
        check.refuses(x, "block(0, -1)", Check.ARGUMENT, () -> x.block(0, -1));
        check.refuses(x, "block(0, 7)", Check.ARGUMENT, () -> x.block(0, 7));
    }

    private static void leastForces() {
        // 584: 526 and 474 are 1000; 583: 525 and 473 are 998.
        RopeTackle x = new RopeTackle();
        check.same("lifting force", x.block(0, 4), 584);
        // 434: 477 and 524 are 1001; 433: 476 and 523 are 999.
        check.same("holding force", x.block(0, 5), 434);
        x.setWeight(0, 0);
        check.same("lifting force of no weight", x.block(0, 4), 0);
        check.same("holding force of no weight", x.block(0, 5), 0);
        x.setWeight(1, 0);
        check.same("lifting force of no weight, no strands", x.block(1, 4), RopeTackle.NONE);
        x.setWeight(0, 1);
        // Hauled, 1 stays 1: nothing is lost of it by a division rounded down.
        check.same("lifting force of the least weight", x.block(0, 4), 1);
        // Only the end hangs on 1, behind 19 pulleys at 30 percent.
        RopeTackle y = Check.reeved("000000000.1,0,1141", 30, 300000);
        check.same("1000000 suffices just", y.pull(1, 1000000, true), 1141);
        check.holds("a lifting force near 1000000", y.block(1, 4) > 999000 && y.block(1, 4) <= 1000000);
        check.holds("it suffices", y.pull(1, y.block(1, 4), true) >= 1141);
        check.holds("one less does not", y.pull(1, y.block(1, 4) - 1, true) < 1141);
        y.setWeight(1, 1142);
        check.same("1000000 does not suffice", y.block(1, 4), RopeTackle.NONE);
        check.holds("but it can be held", y.block(1, 5) >= 0);
    }

    private static void pulley() {
        RopeTackle x = Check.reeved("3120.4", 10, 100000);
        int[] due = {3, 1, 2, 0};
        for (int index = 0; index < due.length; index++) {
            check.same("pulley(" + index + ")", x.pulley(index), due[index]);
        }
        check.refuses(x, "pulley(-1)", Check.INDEX, () -> x.pulley(-1));
        check.refuses(x, "pulley(4)", Check.INDEX, () -> x.pulley(4));
        check.refuses(x, "pulley(greatest)", Check.INDEX, () -> x.pulley(Integer.MAX_VALUE));
        x.takePulley();
        check.refuses(x, "pulley(3), taken", Check.INDEX, () -> x.pulley(3));
    }

    private static void force() {
        RopeTackle x = Check.reeved("01.2", 10, 100000);
        long[] hauled = {1005, 905, 815, 734, 661, 595};
        long[] held = {1005, 1105, 1215, 1336, 1469, 1615};
        for (int passed = 0; passed < hauled.length; passed++) {
            check.same("force(1005, " + passed + ", true)", x.force(1005, passed, true), hauled[passed]);
            check.same("force(1005, " + passed + ", false)", x.force(1005, passed, false), held[passed]);
        }
        check.same("force(0, 5, true)", x.force(0, 5, true), 0);
        check.refuses(x, "force(1, 6, true)", Check.ARGUMENT, () -> x.force(1, 6, true));
        check.refuses(x, "force(1, -1, true)", Check.ARGUMENT, () -> x.force(1, -1, true));
        check.refuses(x, "force(-1, 0, true)", Check.ARGUMENT, () -> x.force(-1, 0, true));
        check.refuses(x, "force(1000001, 0, false)", Check.ARGUMENT, () -> x.force(1000001, 0, false));
        x.setEnd(RopeTackle.BEAM);
        check.refuses(x, "force(1, 5, true), end on the beam", Check.ARGUMENT, () -> x.force(1, 5, true));
        // 21 pulleys at 30 percent: more than an int's product can hold on the way.
        RopeTackle y = Check.reeved("0000000000.3", 30, 300000);
        check.same("force(1000000, 21, false)", y.force(1000000, 21, false), 247064441L);
        RopeTackle z = Check.reeved(".4", 30, 1000);
        check.same("force(5, 0, true), no pulley is passed", z.force(5, 0, true), 5);
        check.refuses(z, "force(5, 1, true), no pulley is passed", Check.ARGUMENT, () -> z.force(5, 1, true));
    }

    private static void pull() {
        RopeTackle x = Check.reeved("01.0", 10, 100000);
        check.same("pull(0, 1005, true)", x.pull(0, 1005, true), 905 + 815 + 595);
        check.same("pull(1, 1005, true)", x.pull(1, 1005, true), 734 + 661);
        check.same("pull(0, 1005, false)", x.pull(0, 1005, false), 1105 + 1215 + 1615);
        check.same("pull(1, 1005, false)", x.pull(1, 1005, false), 1336 + 1469);
        check.same("pull(0, 0, true)", x.pull(0, 0, true), 0);
        check.same("pull(2, 1005, true), no strands", x.pull(2, 1005, true), 0);
        check.refuses(x, "pull(-1, 0, true)", Check.INDEX, () -> x.pull(-1, 0, true));
        check.refuses(x, "pull(4, 0, true)", Check.INDEX, () -> x.pull(4, 0, true));
        check.refuses(x, "pull(4, -1, true)", Check.INDEX, () -> x.pull(4, -1, true));
        check.refuses(x, "pull(0, -1, true)", Check.ARGUMENT, () -> x.pull(0, -1, true));
        check.refuses(x, "pull(0, 1000001, true)", Check.ARGUMENT, () -> x.pull(0, 1000001, true));
        RopeTackle y = Check.reeved(".2", 10, 10000);
        check.same("pull on the end, empty row", y.pull(2, 1000, true), 900);
        check.same("held on the end, empty row", y.pull(2, 1000, false), 1100);
    }

    private static void value() {
        RopeTackle x = Check.reeved("0102.3,100,200,300,400", 7, 150000);
        x.haul(200, 36000 + 10);
        x.letOut(0, 3);
        int[] due = {150000, 150000 - 90000 + 36010 - 2, 7, 4, 3, 9, 90000 - 36010 + 2, 2, 1, 3};
        for (int what = 0; what < due.length; what++) {
            check.same("value(" + what + ")", x.value(what), due[what]);
        }
        check.refuses(x, "value(-1)", Check.ARGUMENT, () -> x.value(-1));
        check.refuses(x, "value(10)", Check.ARGUMENT, () -> x.value(10));
        RopeTackle y = Check.reeved(".4", 10, 1000);
        check.same("no pulley is passed", y.value(5), 0);
        check.same("no strands", y.value(6), 0);
        RopeTackle z = Check.reeved(".0", 10, 10000);
        check.same("one pulley is passed", z.value(5), 1);
        check.same("one strand", z.value(6), 10000);
    }

    private static void work() {
        RopeTackle x = Check.reeved("0.4,50000", 0, 60000);
        for (int i = 0; i < 3; i++) {
            check.same("haul to the top", x.haul(1000000, 100000), 18000);
            check.same("letOut to the floor", x.letOut(0, 100000), 18000);
        }
        check.same("work put, beyond an int", x.work(false), 3L * 1000000 * 18000);
        check.same("work got", x.work(true), 3L * 50000 * 9000);
    }

    private static void entry() {
        RopeTackle x = Check.reeved("02.4,100,1,200", 0, 60000);
        for (int i = 1; i <= 20; i++) {
            x.haul(50, 2 * i);
            check.same("the entries after " + i, x.value(9), Math.min(i, 16));
        }
        check.same("the rises", x.value(7), 20);
        for (int index = 0; index < 16; index++) {
            check.same("entry(" + index + ", 0)", x.entry(index, 0), 0);
            check.same("entry(" + index + ", 1)", x.entry(index, 1), 20 - index);
            check.same("entry(" + index + ", 2)", x.entry(index, 2), 2 * (20 - index));
        }
        x.haul(100, 100000);
        check.same("the block of the latest entry", x.entry(0, 0), 2);
        check.refuses(x, "entry(16, 0)", Check.INDEX, () -> x.entry(16, 0));
        check.refuses(x, "entry(-1, 0)", Check.INDEX, () -> x.entry(-1, 0));
        check.refuses(x, "entry(16, 3)", Check.INDEX, () -> x.entry(16, 3));
        check.refuses(x, "entry(0, 3)", Check.ARGUMENT, () -> x.entry(0, 3));
        check.refuses(x, "entry(0, -1)", Check.ARGUMENT, () -> x.entry(0, -1));
        RopeTackle y = new RopeTackle();
        y.haul(1000, 10);
        check.refuses(y, "entry(1, 0), one is kept", Check.INDEX, () -> y.entry(1, 0));
    }
}
