/** The sentences of "Text" that name an edge, and the edges of promises 24 to 26. */
final class TextEdgesTest {
    private static final Check check = new Check();
    private static final String LONGEST = "3333333333.4,00000,00001,00002,50000";

    public static void main(String[] args) {
        row();
        end();
        weights();
        places();
        append();
        clearText();
        parse();
        check.end();
    }

    /** A tackle with the longest rope, and the text. */
    private static RopeTackle with(String text) {
        RopeTackle x = new RopeTackle();
        x.setLength(300000);
        Check.write(x, text);
        return x;
    }

    private static void reads(String text, int hand) {
        check.same("parse() of '" + text + "'", with(text).parse(), hand);
    }

    private static void fault(String text, int position) {
        reads(text, -10 - position);
        check.changesNothing(() -> with(text), "parse() of '" + text + "'", x -> x.parse());
    }

    private static void row() {
        check.sentence("The text has at most 60 bytes", () -> {
            RopeTackle x = with("0".repeat(60));
            check.refuses(x, "one byte more", Check.STATE, () -> x.append('0'));
            check.same("the bytes", x.clearText(), 60);
            check.same("one byte less", with("0".repeat(59)).append('0'), 60);
        });
        check.sentence("at most 10 digits 0 to 3, the row", () -> {
            reads(".4", 300000);
            reads("0.4", 280000);
            reads("3.4", 280000);
            reads("012301230.4", 120000);
            reads("0123012301.4", 100000);
            fault("01230123012.4", 10);
            fault("4.4", 0);
            fault("34.4", 1);
            fault("/.4", 0);
            fault("0123012304.4", 9);
            RopeTackle x = with("3012301230.4");
            x.parse();
            for (int i = 0; i < 10; i++) {
                check.same("pulley(" + i + ")", x.pulley(i), i + 3 & 3);
            }
            Check.write(x, ".4");
            x.parse();
            check.same("no pulleys", x.value(3), 0);
        });
    }

    private static void end() {
        check.sentence("then \".\" and a digit 0 to 4, the end", () -> {
            for (int end = 0; end <= 4; end++) {
                RopeTackle x = with("." + end);
                check.same("parse()", x.parse(), end == RopeTackle.BEAM ? 300000 : 290000);
                check.same("the end", x.value(4), end);
            }
            fault("./", 1);
            fault(".5", 1);
            fault(".9", 1);
            fault(".44", 2);
            fault("0,4", 1);
            fault("..", 1);
            fault("04", 1);
        });
    }

    private static void weights() {
        check.sentence("then, perhaps, up to four times \",\" and a weight", () -> {
            int[] due = {7, 8, 9, 10};
            String text = ".4";
            for (int count = 0; count <= 4; count++) {
                RopeTackle x = with(text);
                check.same("parse() of " + text, x.parse(), 300000);
                for (int block = 0; block < 4; block++) {
                    check.same("the weight of " + block, x.block(block, 0), block < count ? due[block] : 1000);
                }
                text += count < 4 ? "," + due[count] : "";
            }
            fault(text + ",", text.length());
            fault(text + ",5", text.length());
            fault(text + ",50001", text.length());
        });
        check.sentence("a weight of one to five digits", () -> {
            fault(".4,", 3);
            reads(".4,0", 300000);
            reads(".4,9", 300000);
            reads(".4,12345", 300000);
            fault(".4,123456", 8);
            fault(".4,,5", 3);
            fault(".4,5,", 5);
            fault(".4,5,,", 5);
        });
        check.sentence("0 to 50000, of block 0, 1 and so on", () -> {
            RopeTackle x = with(".4,0,50000,1,49999");
            x.parse();
            int[] due = {0, 50000, 1, 49999};
            for (int block = 0; block < 4; block++) {
                check.same("the weight of " + block, x.block(block, 0), due[block]);
            }
            fault(".4,50001", 3);
            fault(".4,-1", 3);
        });
        check.sentence("Weights can have zeros in front", () -> {
            RopeTackle x = with(".4,00000,00007,0050,0");
            x.parse();
            int[] due = {0, 7, 50, 0};
            for (int block = 0; block < 4; block++) {
                check.same("the weight of " + block, x.block(block, 0), due[block]);
            }
            fault(".4,000000", 8);
            fault(".4,050000", 8);
        });
        check.sentence("For a weight that is out of its range it is the index of its first digit", () -> {
            fault(".4,50001", 3);
            fault(".4,99999", 3);
            fault("0123.4,60000", 7);
            fault(".4,5,50001", 5);
            fault(".4,1,2,3,50001", 9);
            fault(".4,50000,50000,50001,50001", 15);
        });
        check.sentence("found when a byte that is no digit, whichever it is, or the end of the text, follows it", () -> {
            fault(".4,50001", 3);
            fault(".4,50001,99999", 3);
            fault(".4,1,2,3,50001,", 9);
            for (int value = 0; value <= 127; value++) {
                boolean digit = value >= '0' && value <= '9';
                fault(".4,50001" + (char) value, digit ? 8 : 3);
                fault(".4,1,2,3,99999" + (char) value + "5", digit ? 14 : 9);
            }
        });
    }

    private static void places() {
        check.sentence("There are no spaces", () -> {
            String text = "01.2,34,5";
            for (int place = 0; place <= text.length(); place++) {
                fault(text.substring(0, place) + " " + text.substring(place), place);
            }
        });
        check.sentence("the index of the first byte that cannot stand where it stands (a digit too many, too)", () -> {
            for (int value = 0; value <= 127; value++) {
                char sign = (char) value;
                if (value != '.' && (value < '0' || value > '3')) {
                    fault(sign + ".4", 0);
                    fault("012" + sign, 3);
                }
                if (value != '.') {
                    fault("0123012301" + sign + ".4", 10);
                }
                if (value < '0' || value > '4') {
                    fault("01." + sign + "x", 3);
                }
                if (value != ',') {
                    fault("01.4" + sign + "x", 4);
                    fault(".4,1,12345" + sign, 10);
                }
                if (value < '0' || value > '9') {
                    fault("01.4,5," + sign + ",", 7);
                }
                if (value != ',' && (value < '0' || value > '9')) {
                    fault("01.4,5" + sign, 6);
                }
                fault(".4,1,2,3,12345" + sign, 14);
            }
        });
        check.sentence("or the length of the text if the text ends too early", () -> {
            for (int length = 0; length <= LONGEST.length(); length++) {
                String text = LONGEST.substring(0, length);
                boolean early = length < 12 || text.endsWith(",");
                RopeTackle x = with(text);
                check.same("parse() of '" + text + "'", x.parse(), early ? -10 - length : 100000);
            }
        });
    }

    private static void append() {
        check.sentence("append: value: the byte, 0 to 127", () -> {
            for (int value = 0; value <= 127; value++) {
                check.same("append", new RopeTackle().append(value), 1);
            }
        });
        check.sentence("append: Returns the new length of the text", () -> {
            RopeTackle x = new RopeTackle();
            for (int length = 1; length <= 60; length++) {
                check.same("append", x.append('.'), length);
            }
        });
        check.sentence("append: Throws IllegalArgumentException if value is out of range", () ->
            check.refusesBeyond(0, 127, "append", Check.ARGUMENT, (x, value) -> x.append(value)));
        check.sentence("append: Throws IllegalStateException if the text has 60 bytes", () -> {
            RopeTackle x = with(LONGEST + "5".repeat(23));
            check.same("the last one", x.append('.'), 60);
            check.refusesOn(Tackles::full, "one more", Check.STATE, full -> full.append('.'));
            check.refusesOn(Tackles::full, "a 0 byte more", Check.STATE, full -> full.append(0));
            check.same("the text", x.clearText(), 60);
            check.same("an empty text again", x.append('.'), 1);
        });
    }

    private static void clearText() {
        check.sentence("clearText: Empties the text. Returns the length that it had", () -> {
            RopeTackle x = new RopeTackle();
            check.same("empty", x.clearText(), 0);
            x.append('.');
            check.same("one byte", x.clearText(), 1);
            check.same("empty again", x.clearText(), 0);
            Check.write(x, "5".repeat(60));
            check.same("the fault of the full text", x.parse(), -10);
            check.same("60 bytes", x.clearText(), 60);
            check.same("the fault of the empty text", x.parse(), -10);
            Check.write(x, ".4");
            check.same("nothing is left of what was there", x.parse(), 60000);
        });
        check.sentence("clearText: (not undoable)", () -> {
            RopeTackle x = new RopeTackle();
            x.append('.');
            x.clearText();
            check.refuses(x, "undo()", Check.STATE, () -> x.undo());
        });
    }

    private static void parse() {
        check.sentence("parse: Reeves the rope as the text tells, and sets the weights that it tells", () -> {
            RopeTackle x = with(LONGEST);
            check.same("the longest text has", x.clearText(), 36);
            Check.write(x, LONGEST);
            check.same("parse()", x.parse(), 100000);
            check.same("the pulleys on 3", x.block(3, 3), 10);
            check.same("the weight of 3", x.block(3, 0), 50000);
            check.same("the weight of 1", x.block(1, 0), 1);
            Check.write(x, ".4");
            check.same("the shortest text", x.parse(), 300000);
            check.same("the weights stay", x.block(3, 0), 50000);
            check.same("the friction stays", x.value(2), 10);
            check.same("the length stays", x.value(0), 300000);
        });
        check.sentence("parse: all blocks lie on the floor then", () -> {
            RopeTackle x = Check.reeved("0123.4,2,2,2,2", 0, 300000);
            x.haul(1, 100000);
            Check.write(x, "0.4");
            check.same("parse()", x.parse(), 280000);
            for (int block = 0; block < 4; block++) {
                check.same("the height of " + block, x.block(block, 1), 0);
            }
            check.same("the ledger stays", x.value(9), 4);
            check.same("the work stays", x.work(true), 72000);
            x.haul(1, 100000);
            x.takePulley();
            check.same("a risen block without strands", x.block(0, 1), 9000);
            Check.write(x, "1.4");
            check.same("parse()", x.parse(), 280000);
            check.same("it lies on the floor, without strands", x.block(0, 1), 0);
        });
        check.sentence("parse: The text stays as it is", () -> {
            RopeTackle x = with("0.4,5");
            check.same("parse()", x.parse(), 280000);
            check.same("parse() again", x.parse(), 280000);
            check.same("the text's length", x.clearText(), 5);
            Check.write(x, "0.4,5;");
            check.same("a fault", x.parse(), -15);
            check.same("the same fault", x.parse(), -15);
            check.same("the text's length", x.clearText(), 6);
        });
        check.sentence("parse: Undoable, if there is no syntax error and the rope is long enough", () -> {
            RopeTackle x = new RopeTackle();
            Check.write(x, "000.0");
            check.same("the rope is too short", x.parse(), RopeTackle.NONE);
            Check.write(x, "000.");
            check.same("a syntax error", x.parse(), -14);
            check.refuses(x, "nothing is saved", Check.STATE, () -> x.undo());
            Check.write(x, "000.4");
            check.same("just long enough", x.parse(), 0);
            check.same("undo()", x.undo(), 0);
            check.same("the row again", x.value(3), 1);
            Check.write(x, "0.4");
            x.parse();
            check.same("undo() of one that changed nothing", x.undo(), 0);
        });
        check.sentence("parse: Returns what the hand has then; NONE if this would be less than 0", () -> {
            for (int length : new int[] {20000, 20001, 60000, 300000}) {
                RopeTackle x = Check.reeved(".4", 10, length);
                Check.write(x, "2.4");
                check.same("of " + length, x.parse(), length - 20000);
            }
            check.changesNothing(TextEdgesTest::tooShort, "parse()", x ->
                check.same("1 too short", x.parse(), RopeTackle.NONE));
            // Where block 0 is the rope is long enough, but not on the floor.
            RopeTackle y = Check.reeved("0.4", 10, 60000);
            y.haul(10000, 18000);
            y.setLength(19999);
            Check.write(y, "0.4");
            check.same("1 too short to the floor", y.parse(), RopeTackle.NONE);
            check.same("the block stays where it is", y.block(0, 1), 9000);
        });
        check.sentence("parse: -10 minus the syntax error position if there is a syntax error", () -> {
            fault("", 0);
            fault("x", 0);
            fault("0x", 1);
            fault(LONGEST + ",", 36);
            fault(LONGEST + "0", 36);
            fault(LONGEST + "0".repeat(24), 36);
            // The rope is too short for it, too, but the fault comes first.
            RopeTackle x = new RopeTackle();
            Check.write(x, "0000000000.0;");
            check.same("a fault in what is too long", x.parse(), -22);
        });
        check.sentence("parse: (in both cases nothing changes)", () -> {
            check.changesNothing(TextEdgesTest::tooShort, "parse(), too short", x -> x.parse());
            check.changesNothing(Tackles::full, "parse(), a fault", x -> check.same("parse()", x.parse(), -12));
            check.changesNothing(TextEdgesTest::faultAtLast, "parse(), a fault at the last byte", x ->
                check.same("parse()", x.parse(), -30));
        });
    }

    /** The rope is 1 too short for the text. */
    private static RopeTackle tooShort() {
        RopeTackle x = Tackles.used();
        Check.write(x, "2012.0,3,4,5,6");
        x.setLength(89999);
        return x;
    }

    private static RopeTackle faultAtLast() {
        RopeTackle x = Tackles.used();
        Check.write(x, "2222.4,33,44,55,6666;");
        return x;
    }
}
