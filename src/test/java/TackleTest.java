/** Promises 1 to 9: a new object, and the calls that change the tackle. */
final class TackleTest {
    private static final Check check = new Check();

    public static void main(String[] args) {
        newObject();
        setWeight();
        setFriction();
        setLength();
        addPulley();
        takePulley();
        setEnd();
        haulOneBlock();
        haulInTurn();
        haulEdges();
        letOutOneBlock();
        letOutInTurn();
        letOutEdges();
        ledgerOfMoves();
        check.end();
    }

    private static void newObject() {
        RopeTackle x = new RopeTackle();
        int[] values = {60000, 40000, 10, 1, 4, 2, 20000, 0, 0, 0};
        for (int what = 0; what < values.length; what++) {
            check.same("new: value(" + what + ")", x.value(what), values[what]);
        }
        for (int block = 0; block < 4; block++) {
            check.same("new: weight of " + block, x.block(block, 0), 1000);
            check.same("new: height of " + block, x.block(block, 1), 0);
            check.same("new: strands of " + block, x.block(block, 2), block == 0 ? 2 : 0);
        }
        check.same("new: pulley(0)", x.pulley(0), 0);
        check.same("new: work put", x.work(false), 0);
        check.same("new: work got", x.work(true), 0);
        check.refuses(x, "new: entry(0, 0)", Check.INDEX, () -> x.entry(0, 0));
        check.refuses(x, "new: undo()", Check.STATE, () -> x.undo());
        check.same("new: clearText()", x.clearText(), 0);
    }

    private static void setWeight() {
        RopeTackle x = new RopeTackle();
        check.same("setWeight(0, 50000)", x.setWeight(0, 50000), 1000);
        check.same("setWeight(0, 0)", x.setWeight(0, 0), 50000);
        check.same("weight of 0", x.block(0, 0), 0);
        check.same("setWeight(3, 7)", x.setWeight(3, 7), 1000);
        check.same("weight of 3", x.block(3, 0), 7);
        check.same("weight of 2", x.block(2, 0), 1000);
        check.refuses(x, "setWeight(-1, 5)", Check.INDEX, () -> x.setWeight(-1, 5));
        check.refuses(x, "setWeight(4, 5)", Check.INDEX, () -> x.setWeight(4, 5));
        check.refuses(x, "setWeight(4, -1)", Check.INDEX, () -> x.setWeight(4, -1));
        check.refuses(x, "setWeight(0, -1)", Check.ARGUMENT, () -> x.setWeight(0, -1));
        check.refuses(x, "setWeight(0, 50001)", Check.ARGUMENT, () -> x.setWeight(0, 50001));
        check.same("undo of setWeight", x.undo(), 2);
        check.same("weight of 3 again", x.block(3, 0), 1000);
    }

    private static void setFriction() {
        RopeTackle x = new RopeTackle();
        check.same("setFriction(30)", x.setFriction(30), 10);
        check.same("setFriction(0)", x.setFriction(0), 30);
        check.same("the friction", x.value(2), 0);
        check.refuses(x, "setFriction(-1)", Check.ARGUMENT, () -> x.setFriction(-1));
        check.refuses(x, "setFriction(31)", Check.ARGUMENT, () -> x.setFriction(31));
        check.same("undo of setFriction", x.undo(), 1);
        check.same("the friction again", x.value(2), 30);
    }

    private static void setLength() {
        RopeTackle x = new RopeTackle();
        check.same("setLength(300000)", x.setLength(300000), 280000);
        check.same("setLength(20000)", x.setLength(20000), 0);
        check.same("the length", x.value(0), 20000);
        check.refuses(x, "setLength(19999)", Check.STATE, () -> x.setLength(19999));
        check.refuses(x, "setLength(1000)", Check.STATE, () -> x.setLength(1000));
        check.refuses(x, "setLength(999)", Check.ARGUMENT, () -> x.setLength(999));
        check.refuses(x, "setLength(300001)", Check.ARGUMENT, () -> x.setLength(300001));
        x.takePulley();
        check.same("setLength(1000)", x.setLength(1000), 1000);
        check.same("undo of setLength", x.undo(), 3);
        check.same("the length again", x.value(0), 20000);
    }

    private static void addPulley() {
        RopeTackle x = new RopeTackle();
        check.same("addPulley(3)", x.addPulley(3), 2);
        check.same("addPulley(0)", x.addPulley(0), 3);
        check.same("the hand, empty", x.value(1), 0);
        check.same("pulley(1)", x.pulley(1), 3);
        check.same("pulley(2)", x.pulley(2), 0);
        check.refuses(x, "addPulley(-1)", Check.INDEX, () -> x.addPulley(-1));
        check.refuses(x, "addPulley(4)", Check.INDEX, () -> x.addPulley(4));
        check.refuses(x, "addPulley(1), too short", Check.STATE, () -> x.addPulley(1));
        x.setLength(79999);
        check.refuses(x, "addPulley(1), too short by 1", Check.STATE, () -> x.addPulley(1));
        x.setLength(300000);
        for (int count = 4; count <= 10; count++) {
            check.same("addPulley to " + count, x.addPulley(1), count);
        }
        check.refuses(x, "addPulley, 10 are there", Check.STATE, () -> x.addPulley(1));
        check.refuses(x, "addPulley(4), 10 are there", Check.INDEX, () -> x.addPulley(4));
        check.same("undo of addPulley", x.undo(), 3);
        check.same("the pulleys again", x.value(3), 9);
        // A pulley on a risen block takes but the strands that it has there.
        RopeTackle y = new RopeTackle();
        y.haul(10000, 18000);
        y.setLength(4000);
        check.same("addPulley on a block at the top", y.addPulley(0), 2);
        check.same("the hand then", y.value(1), 0);
    }

    private static void takePulley() {
        RopeTackle x = new RopeTackle();
        x.addPulley(2);
        x.haul(100000, 30000);
        check.same("takePulley()", x.takePulley(), 2);
        check.same("the hand then", x.value(1), 60000 - x.value(6));
        check.same("a block without strands stays where it is", x.block(2, 1), 6000);
        check.same("takePulley() again", x.takePulley(), 0);
        check.same("the pulleys", x.value(3), 0);
        check.same("the hand has all", x.value(1), 60000);
        check.refuses(x, "takePulley(), empty", Check.STATE, () -> x.takePulley());
        check.same("undo of takePulley", x.undo(), 3);
        check.same("pulley(0) again", x.pulley(0), 0);
    }

    private static void setEnd() {
        RopeTackle x = new RopeTackle();
        x.setWeight(2, 77);
        check.same("setEnd(1)", x.setEnd(1), 4);
        check.same("the weight stays", x.block(2, 0), 77);
        check.same("the end", x.value(4), 1);
        check.same("strands of 1", x.block(1, 2), 1);
        check.same("setEnd(0)", x.setEnd(0), 1);
        check.same("strands of 0", x.block(0, 2), 3);
        check.same("setEnd(BEAM)", x.setEnd(RopeTackle.BEAM), 0);
        check.refuses(x, "setEnd(-1)", Check.INDEX, () -> x.setEnd(-1));
        check.refuses(x, "setEnd(5)", Check.INDEX, () -> x.setEnd(5));
        x.setLength(29999);
        check.refuses(x, "setEnd(3), too short by 1", Check.STATE, () -> x.setEnd(3));
        x.setLength(30000);
        check.same("setEnd(3)", x.setEnd(3), 4);
        check.same("the hand, empty", x.value(1), 0);
        check.same("undo of setEnd", x.undo(), 3);
        check.same("the end again", x.value(4), 4);
    }

    private static void haulOneBlock() {
        RopeTackle x = new RopeTackle();
        check.same("haul below the lifting force", x.haul(583, 100), 0);
        check.same("haul with the lifting force", x.haul(584, 100), 100);
        check.same("the height", x.block(0, 1), 50);
        check.same("the hand", x.value(1), 40100);
        check.same("haul an odd length", x.haul(600, 101), 100);
        check.same("haul less than the strands", x.haul(600, 1), 0);
        check.same("haul nothing", x.haul(600, 0), 0);
        check.same("haul to the top", x.haul(1000000, 100000), 17800);
        check.same("the height, at the top", x.block(0, 1), 9000);
        check.same("haul at the top", x.haul(1000000, 100000), 0);
        check.same("work put", x.work(false), 584L * 100 + 600L * 100 + 1000000L * 17800);
        check.same("work got", x.work(true), 9000000);
        check.same("undo of a hauling that changed nothing", x.undo(), 3);
        check.same("undo of a hauling", x.undo(), 2);
        check.same("the height, undone", x.block(0, 1), 100);
        check.same("work put, undone", x.work(false), 584L * 100 + 600L * 100);
    }

    /** Without friction a block's lifting force is its weight / its strands, rounded up. */
    private static void haulInTurn() {
        RopeTackle x = Check.reeved("0112.4,3000,2000,900,1", 0, 200000);
        check.same("lifting force of 0", x.block(0, 4), 1500);
        check.same("lifting force of 1", x.block(1, 4), 500);
        check.same("lifting force of 2", x.block(2, 4), 450);
        check.same("haul: 2, then 1", x.haul(500, 18000 + 36000 + 5), 54000);
        check.same("height of 2", x.block(2, 1), 9000);
        check.same("height of 1", x.block(1, 1), 9000);
        check.same("height of 0", x.block(0, 1), 0);
        check.same("haul: 0 is too heavy", x.haul(1499, 100), 0);
        check.same("haul: 0", x.haul(1500, 100), 100);
        check.same("work put", x.work(false), 500L * 54000 + 1500L * 100);
        check.same("work got", x.work(true), 900L * 9000 + 2000L * 9000 + 3000L * 50);
        RopeTackle all = Check.reeved("3210.4,100,100,100,100", 0, 100000);
        check.same("haul all four", all.haul(50, 100000), 72000);
        check.same("the last one's height", all.block(3, 1), 9000);
        check.same("let out all four", all.letOut(49, 100000), 72000);
        check.same("the last one's height", all.block(3, 1), 0);
        // The same lifting force: the lowest number rises first.
        RopeTackle y = Check.reeved("21.4,1000,1000,1000", 0, 60000);
        y.haul(500, 30);
        check.same("of two the lowest: height of 1", y.block(1, 1), 15);
        check.same("of two the lowest: height of 2", y.block(2, 1), 0);
    }

    private static void haulEdges() {
        // Block 0 with 4 strands has its turn, and 3 are too few: block 1 with its 2 is not tried.
        RopeTackle x = Check.reeved("001.4,1000,1000", 0, 100000);
        check.same("the one whose turn it is rises by 0", x.haul(1000, 3), 0);
        check.same("height of 1", x.block(1, 1), 0);
        x.haul(1000, 36000);
        check.same("the next one, with what is left", x.haul(1000, 3), 2);
        check.same("height of 1 then", x.block(1, 1), 1);
        RopeTackle one = Check.reeved(".0,1", 0, 10000);
        check.same("haul the least length with the least force", one.haul(1, 1), 1);
        check.same("let it out", one.letOut(0, 1), 1);
        check.same("let out nothing", one.letOut(0, 0), 0);
        RopeTackle y = new RopeTackle();
        y.setWeight(0, 0);
        check.same("a block of no weight rises with no force", y.haul(0, 10), 10);
        check.refuses(y, "haul(-1, 0)", Check.ARGUMENT, () -> y.haul(-1, 0));
        check.refuses(y, "haul(1000001, 0)", Check.ARGUMENT, () -> y.haul(1000001, 0));
        check.refuses(y, "haul(0, -1)", Check.ARGUMENT, () -> y.haul(0, -1));
        check.refuses(y, "haul(0, 100001)", Check.ARGUMENT, () -> y.haul(0, 100001));
        y.takePulley();
        check.same("haul with an empty row", y.haul(1000000, 100000), 0);
        // At 30 percent and behind 18 pulleys a block of 50000 can't be lifted at all.
        RopeTackle z = Check.reeved("0000000001.4,50000,50000", 30, 300000);
        z.haul(1000000, 100000);
        z.haul(1000000, 100000);
        check.same("one that has no lifting force", z.block(1, 4), -1);
        check.same("it does not rise", z.block(1, 1), 0);
        check.same("the other one did", z.block(0, 1), 9000);
    }

    private static void letOutOneBlock() {
        RopeTackle x = new RopeTackle();
        check.same("letOut on the floor", x.letOut(0, 100), 0);
        x.haul(1000, 1000);
        check.same("letOut with the holding force", x.letOut(434, 100), 0);
        check.same("letOut below the holding force", x.letOut(433, 100), 100);
        check.same("the height", x.block(0, 1), 450);
        check.same("letOut an odd length", x.letOut(0, 101), 100);
        check.same("letOut less than the strands", x.letOut(0, 1), 0);
        check.same("letOut to the floor", x.letOut(0, 100000), 800);
        check.same("the height, on the floor", x.block(0, 1), 0);
        check.same("the hand", x.value(1), 40000);
        check.same("work put is of the hauling alone", x.work(false), 1000000);
        check.same("work got is of the rise alone", x.work(true), 500000);
        check.same("undo of a letting out", x.undo(), 3);
        check.same("the height, undone", x.block(0, 1), 400);
    }

    private static void letOutInTurn() {
        RopeTackle x = Check.reeved("0112.4,3000,2000,900,1", 0, 200000);
        x.haul(2000, 100000);
        check.same("all are at the top", x.value(6), 8000);
        check.same("letOut: 0 sinks first", x.letOut(499, 18000 + 36000 + 100), 54000);
        check.same("height of 0", x.block(0, 1), 0);
        check.same("height of 1", x.block(1, 1), 0);
        check.same("height of 2: it is held by 499", x.block(2, 1), 9000);
        check.same("letOut: 2", x.letOut(449, 100), 100);
        // The same holding force: the lowest number sinks first.
        RopeTackle y = Check.reeved("21.4,1000,1000,1000", 0, 60000);
        y.haul(500, 36000);
        y.letOut(0, 30);
        check.same("of two the lowest: height of 1", y.block(1, 1), 8985);
        check.same("of two the lowest: height of 2", y.block(2, 1), 9000);
    }

    private static void letOutEdges() {
        RopeTackle x = new RopeTackle();
        x.haul(1000, 10000);
        x.setLength(10100);
        check.same("the hand has 100", x.value(1), 100);
        check.same("letOut no more than the hand has", x.letOut(0, 1000), 100);
        check.same("the hand, empty", x.value(1), 0);
        check.same("letOut from an empty hand", x.letOut(0, 1000), 0);
        RopeTackle y = Check.reeved("001.4,1000,100", 0, 100000);
        y.haul(1000, 100000);
        check.same("the one whose turn it is sinks by 0", y.letOut(0, 3), 0);
        check.same("height of 1", y.block(1, 1), 9000);
        y.setWeight(0, 0);
        check.same("one of no weight does not sink", y.letOut(0, 3), 2);
        check.same("height of 1 then", y.block(1, 1), 8999);
        check.refuses(y, "letOut(-1, 0)", Check.ARGUMENT, () -> y.letOut(-1, 0));
        check.refuses(y, "letOut(1000001, 0)", Check.ARGUMENT, () -> y.letOut(1000001, 0));
        check.refuses(y, "letOut(0, -1)", Check.ARGUMENT, () -> y.letOut(0, -1));
        check.refuses(y, "letOut(0, 100001)", Check.ARGUMENT, () -> y.letOut(0, 100001));
        check.same("letOut(1000000, 100000)", y.letOut(1000000, 100000), 0);
        y.takePulley();
        check.same("a block without strands can't sink", y.letOut(0, 100000), 0);
    }

    private static void ledgerOfMoves() {
        RopeTackle x = Check.reeved("01.4,500,1000", 0, 100000);
        x.haul(1000, 18002);
        x.letOut(0, 6);
        x.haul(1000, 0);
        check.same("the rises", x.value(7), 2);
        check.same("the sinkings", x.value(8), 2);
        check.same("the entries", x.value(9), 4);
        int[][] due = {{0, -2, -4}, {1, -1, -2}, {1, 1, 2}, {0, 9000, 18000}};
        for (int index = 0; index < due.length; index++) {
            for (int what = 0; what < 3; what++) {
                check.same("entry(" + index + ", " + what + ")", x.entry(index, what), due[index][what]);
            }
        }
    }
}
