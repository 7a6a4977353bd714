/** Promises 24 to 26: the text. */
final class TextTest {
    private static final Check check = new Check();

    public static void main(String[] args) {
        append();
        clearText();
        parseReeves();
        parseTooShort();
        faults();
        everyByte();
        check.end();
    }

    private static void append() {
        RopeTackle x = new RopeTackle();
        check.same("append(0)", x.append(0), 1);
        check.same("append(127)", x.append(127), 2);
        check.refuses(x, "append(-1)", Check.ARGUMENT, () -> x.append(-1));
        check.refuses(x, "append(128)", Check.ARGUMENT, () -> x.append(128));
        for (int length = 3; length <= 60; length++) {
            check.same("append to " + length, x.append('0'), length);
        }
        check.refuses(x, "append, 60 are there", Check.STATE, () -> x.append('0'));
        check.refuses(x, "append(128), 60 are there", Check.ARGUMENT, () -> x.append(128));
        check.refuses(x, "the text is not undoable", Check.STATE, () -> x.undo());
    }

    private static void clearText() {
        RopeTackle x = new RopeTackle();
        Check.write(x, "01.4");
        check.same("clearText()", x.clearText(), 4);
        check.same("clearText(), empty", x.clearText(), 0);
        check.same("append then", x.append('.'), 1);
        check.same("the text is what came since", x.parse(), -11);
    }

    private static void parseReeves() {
        RopeTackle x = new RopeTackle();
        x.haul(1000, 1000);
        x.setLength(300000);
        x.setFriction(20);
        Check.write(x, "3120123012.2,00007,0,50000,123");
        check.same("parse()", x.parse(), 300000 - 210000);
        check.same("the pulleys", x.value(3), 10);
        check.same("the end", x.value(4), 2);
        int[] row = {3, 1, 2, 0, 1, 2, 3, 0, 1, 2};
        for (int i = 0; i < row.length; i++) {
            check.same("pulley(" + i + ")", x.pulley(i), row[i]);
        }
        int[] weights = {7, 0, 50000, 123};
        for (int block = 0; block < 4; block++) {
            check.same("weight of " + block, x.block(block, 0), weights[block]);
            check.same("height of " + block, x.block(block, 1), 0);
        }
        check.same("the friction stays", x.value(2), 20);
        check.same("the ledger stays", x.value(9), 1);
        check.same("the work stays", x.work(false), 1000000);
        check.same("parse() of the same text", x.parse(), 90000);
        check.same("undo of a parse that changed nothing", x.undo(), 3);
        check.same("undo of a parse", x.undo(), 2);
        check.same("the height again", x.block(0, 1), 500);
        check.same("the row again", x.value(3), 1);
        check.same("the text stays", x.clearText(), 30);
        Check.write(x, "1.4,5");
        check.same("parse(), one weight", x.parse(), 280000);
        check.same("the weight that is told", x.block(0, 0), 5);
        check.same("one that is not told", x.block(1, 0), 1000);
        Check.write(x, ".4");
        check.same("parse(), the least text", x.parse(), 300000);
        check.same("no pulleys", x.value(3), 0);
    }

    private static void parseTooShort() {
        RopeTackle x = new RopeTackle();
        x.haul(1000, 1000);
        long before = x.value(6);
        Check.write(x, "000.0,5");
        check.same("parse(), too short", x.parse(), RopeTackle.NONE);
        check.same("nothing is changed: the strands", x.value(6), before);
        check.same("nothing is changed: the weight", x.block(0, 0), 1000);
        check.same("nothing is saved", x.undo(), 0);
        // The rope would do for the block where it is, but not on the floor.
        RopeTackle y = new RopeTackle();
        y.haul(10000, 18000);
        y.setLength(19999);
        Check.write(y, "0.4");
        check.same("parse(), the blocks lie on the floor then", y.parse(), RopeTackle.NONE);
        y.setLength(20000);
        check.same("parse(), just long enough", y.parse(), 0);
    }

    private static void fault(String text, int position) {
        RopeTackle x = new RopeTackle();
        x.setLength(300000);
        x.haul(1000, 1000);
        Check.write(x, text);
        long before = x.digest();
        check.same("parse() of " + text, x.parse(), -10 - position);
        check.same("parse() of " + text + " changes nothing", x.digest(), before);
    }

    private static void faults() {
        fault("", 0);
        fault("0", 1);
        fault("0123", 4);
        fault(".", 1);
        fault("4", 0);
        fault("012 .4", 3);
        fault(".5", 1);
        fault("..", 1);
        fault("00000000000.4", 10);
        fault("0000000000", 10);
        fault("0000000000.", 11);
        fault(".44", 2);
        fault(".4.", 2);
        fault(".4 ", 2);
        fault(".4,", 3);
        fault(".4,,", 3);
        fault(".4,x", 3);
        fault(".4,5,", 5);
        fault(".4,1,2,3,4,", 10);
        fault(".4,1,2,3,4,5", 10);
        fault(".4,1,2,3,45x", 11);
        fault(".4,50001", 3);
        fault(".4,99999", 3);
        fault(".4,50001,", 3);
        fault(".4,50001x", 3);
        fault(".4,500011", 8);
        fault(".4,000000", 8);
        fault(".4,600000", 8);
        fault(".4,1,2,3,50001", 9);
        fault(".4,1,2,3,50001,", 9);
        fault(".4,50001,x", 3);
        fault(".4,1,99999.", 5);
        fault(".4,-1", 3);
    }

    /** Each byte at each kind of place. */
    private static void everyByte() {
        for (int value = 0; value <= 127; value++) {
            String sign = String.valueOf((char) value);
            RopeTackle x = new RopeTackle();
            Check.write(x, sign);
            boolean ahead = value == '.' || value >= '0' && value <= '3';
            check.same("first byte " + value, x.parse(), ahead ? -11 : -10);
            Check.write(x, "." + sign);
            boolean end = value >= '0' && value <= '4';
            check.same("end " + value, x.parse(), !end ? -11 : value == '4' ? 60000 : 50000);
            Check.write(x, ".4" + sign + "1");
            check.same("comma " + value, x.parse(), value == ',' ? 60000 : -12);
            Check.write(x, ".4,1" + sign);
            boolean digit = value >= '0' && value <= '9';
            check.same("digit " + value, x.parse(), digit ? 60000 : value == ',' ? -15 : -14);
            if (digit) {
                check.same("weight with " + value, x.block(0, 0), 10 + value - '0');
            }
        }
    }
}
