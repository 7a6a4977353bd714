/** The sentences of "Terms" that name an edge: blocks, rope, strands, friction, least forces, moves, work, ledger. */
final class TermsEdgesTest {
    private static final Check check = new Check();

    public static void main(String[] args) {
        division();
        blocks();
        rope();
        strands();
        friction();
        leastForces();
        hauling();
        lettingOut();
        work();
        ledger();
        check.end();
    }

    private static void division() {
        check.sentence("a / b means division rounded down", () -> {
            RopeTackle x = Check.reeved("0.0,3", 10, 100000);
            check.same("19 * 10 / 100 is 1", x.force(19, 1, true), 18);
            check.same("20 * 10 / 100 is 2", x.force(20, 1, true), 18);
            check.same("2 of rope / 3 strands is 0", x.haul(1000, 2), 0);
            check.same("5 of rope / 3 strands is 1", x.haul(1000, 5), 3);
        });
    }

    private static void blocks() {
        check.sentence("There is a beam at the height 10000", () -> {
            RopeTackle x = Check.reeved(".0,1", 0, 10000);
            check.same("a strand to the floor", x.value(6), 10000);
            check.same("the hand", x.value(1), 0);
        });
        check.sentence("there are 4 blocks, numbered from 0", () -> {
            RopeTackle x = new RopeTackle();
            check.same("block 0", x.block(0, 0), 1000);
            check.same("block 3", x.block(3, 0), 1000);
            check.refuses(x, "block -1", Check.INDEX, () -> x.block(-1, 0));
            check.refuses(x, "block 4", Check.INDEX, () -> x.block(4, 0));
        });
        check.sentence("each with a weight, 0 to 50000, initially 1000, and a height, 0 to 9000, initially 0", () -> {
            RopeTackle x = new RopeTackle();
            for (int block = 0; block < 4; block++) {
                check.same("the weight of " + block, x.block(block, 0), 1000);
                check.same("the height of " + block, x.block(block, 1), 0);
            }
        });
        check.sentence("9000 is the top", () -> {
            RopeTackle x = new RopeTackle();
            check.same("haul to 1 below the top", x.haul(1000, 17998), 17998);
            check.same("the height", x.block(0, 1), 8999);
            check.same("haul beyond the top", x.haul(1000, 100000), 2);
            check.same("the height, at the top", x.block(0, 1), 9000);
            check.same("haul at the top", x.haul(1000, 2), 0);
        });
        check.sentence("0 the floor", () -> {
            RopeTackle x = new RopeTackle();
            x.haul(1000, 100);
            check.same("let out to 1 above the floor", x.letOut(0, 98), 98);
            check.same("the height", x.block(0, 1), 1);
            check.same("let out beyond the floor", x.letOut(0, 100000), 2);
            check.same("the height, on the floor", x.block(0, 1), 0);
            check.same("let out on the floor", x.letOut(0, 2), 0);
        });
    }

    private static void rope() {
        check.sentence("The rope has a length, 1000 to 300000, initially 60000", () -> {
            check.same("the length, new", new RopeTackle().value(0), 60000);
            RopeTackle x = Tackles.bare();
            x.setLength(1000);
            check.same("the least length", x.value(0), 1000);
            x.setLength(300000);
            check.same("the greatest length", x.value(0), 300000);
            check.refuses(x, "999", Check.ARGUMENT, () -> x.setLength(999));
            check.refuses(x, "300001", Check.ARGUMENT, () -> x.setLength(300001));
        });
        check.sentence("It is reeved by a row of at most 10 pulleys", () -> {
            RopeTackle x = Check.reeved("012301230.4", 10, 300000);
            check.same("the tenth one", x.addPulley(1), 10);
            check.same("the last one in the row", x.pulley(9), 1);
            check.refuses(x, "the eleventh one", Check.STATE, () -> x.addPulley(2));
        });
        check.sentence("a block can be there several times", () -> {
            RopeTackle x = Check.reeved("2222222222.2", 10, 300000);
            check.same("the pulleys on it", x.block(2, 3), 10);
            check.same("its strands", x.block(2, 2), 21);
            check.same("its strands' lengths", x.value(6), 210000);
        });
        check.sentence("an end, which is a block, 0 to 3, or the beam, 4", () -> {
            RopeTackle x = new RopeTackle();
            for (int end = 0; end <= 4; end++) {
                x.setEnd(end);
                check.same("the end", x.value(4), end);
            }
            check.refuses(x, "the end -1", Check.INDEX, () -> x.setEnd(-1));
            check.refuses(x, "the end 5", Check.INDEX, () -> x.setEnd(5));
        });
        check.sentence("Behind the last one it goes up to the end, if that is the beam", () -> {
            String row = "";
            for (int count = 0; count <= 10; count++) {
                check.same("the pulleys that are passed", Check.reeved(row + ".4", 10, 300000).value(5), 2 * count);
                row += "0";
            }
        });
        check.sentence("otherwise it goes over a pulley of the beam (with an empty row this is the first one), "
            + "and down to the end", () -> {
            RopeTackle x = Check.reeved(".3", 10, 60000);
            check.same("the pulleys that are passed", x.value(5), 1);
            check.same("the force behind the first one", x.force(1000, 1, true), 900);
            check.same("the pull on the end", x.pull(3, 1000, true), 900);
            check.same("with one pulley in the row", Check.reeved("0.3", 10, 60000).pull(3, 1000, true), 729);
        });
        check.sentence("With an empty row and the beam as the end it passes no pulley", () -> {
            RopeTackle x = Tackles.bare();
            check.same("the pulleys that are passed", x.value(5), 0);
            check.same("the force behind none", x.force(1000, 0, true), 1000);
            check.refuses(x, "the force behind one", Check.ARGUMENT, () -> x.force(1000, 1, true));
            check.same("the strands' lengths", x.value(6), 0);
        });
        check.sentence("Initially the row is 0, and the end is the beam", () -> {
            RopeTackle x = new RopeTackle();
            check.same("the pulleys", x.value(3), 1);
            check.same("the first one", x.pulley(0), 0);
            check.same("the end", x.value(4), RopeTackle.BEAM);
        });
    }

    private static void strands() {
        check.sentence("two for each of its pulleys in the row, and one if it is the end", () -> {
            RopeTackle x = Check.reeved("0112.2", 10, 100000);
            int[] due = {2, 4, 3, 0};
            for (int block = 0; block < 4; block++) {
                check.same("the strands of " + block, x.block(block, 2), due[block]);
            }
            check.same("of the end alone", Check.reeved(".3", 10, 100000).block(3, 2), 1);
        });
        check.sentence("Each strand of a block has the length 10000 minus the height of the block", () -> {
            RopeTackle x = new RopeTackle();
            check.same("on the floor", x.value(6), 20000);
            x.haul(1000, 2);
            check.same("at 1", x.value(6), 19998);
            x.haul(1000, 100000);
            check.same("at the top", x.value(6), 2000);
        });
        check.sentence("The hand has the rest of the rope's length, which never is below 0", () -> {
            RopeTackle x = Check.reeved("01.4", 10, 40000);
            check.same("the hand has nothing", x.value(1), 0);
            check.refuses(x, "a shorter rope", Check.STATE, () -> x.setLength(39999));
            check.refuses(x, "a pulley more", Check.STATE, () -> x.addPulley(0));
            check.refuses(x, "the end on a block", Check.STATE, () -> x.setEnd(0));
            Check.write(x, "01.0");
            check.same("parse() of more strands", x.parse(), RopeTackle.NONE);
            check.same("let out", x.letOut(0, 100000), 0);
            x.haul(1000, 2);
            x.setLength(39998);
            check.same("the hand has nothing, above the floor", x.value(1), 0);
            check.same("let out, above the floor", x.letOut(0, 2), 0);
        });
        check.sentence("A block without strands cannot rise or sink", () -> {
            RopeTackle x = new RopeTackle();
            x.setWeight(0, 0);
            x.haul(0, 200);
            x.takePulley();
            x.setWeight(0, 50000);
            check.same("let out", x.letOut(0, 100000), 0);
            x.setWeight(0, 0);
            check.same("haul", x.haul(1000000, 100000), 0);
            check.same("the height", x.block(0, 1), 100);
            x.addPulley(0);
            check.same("with strands again, from where it was", x.haul(0, 2), 2);
            RopeTackle both = Check.reeved("01.4,100,100", 0, 60000);
            both.haul(50, 36000);
            both.takePulley();
            check.same("the other one sinks", both.letOut(0, 18000), 18000);
            check.same("the other one rises", both.haul(50, 18000), 18000);
            check.same("the height", both.block(1, 1), 9000);
        });
    }

    private static void friction() {
        check.sentence("There is a friction, 0 to 30, in percent, initially 10", () -> {
            RopeTackle x = new RopeTackle();
            check.same("the friction, new", x.value(2), 10);
            x.setFriction(0);
            check.same("nothing is lost", x.force(1000000, 2, true), 1000000);
            check.same("nothing is won", x.force(1000000, 2, false), 1000000);
            x.setFriction(30);
            check.same("30 percent are lost", x.force(1000000, 1, true), 700000);
            check.same("30 percent are won", x.force(1000000, 1, false), 1300000);
            check.refuses(x, "-1", Check.ARGUMENT, () -> x.setFriction(-1));
            check.refuses(x, "31", Check.ARGUMENT, () -> x.setFriction(31));
        });
        check.sentence("The force in the rope is the hand's force at the hand", () -> {
            RopeTackle x = new RopeTackle();
            check.same("hauled", x.force(1000000, 0, true), 1000000);
            check.same("held", x.force(1000000, 0, false), 1000000);
        });
        check.sentence("it becomes t - t * friction / 100 of the force t ahead of it when the rope is hauled", () -> {
            RopeTackle x = Check.reeved("0.4", 30, 60000);
            int[] due = {0, 1, 2, 3, 3, 4, 5, 5, 6, 7, 7};
            for (int t = 0; t < due.length; t++) {
                check.same("behind " + t, x.force(t, 1, true), due[t]);
            }
            check.same("behind 10 and 7", x.force(10, 2, true), 5);
        });
        check.sentence("and t + t * friction / 100 when it is let out or held", () -> {
            RopeTackle x = Check.reeved("0.4", 30, 60000);
            int[] due = {0, 1, 2, 3, 5, 6, 7, 9, 10, 11, 13};
            for (int t = 0; t < due.length; t++) {
                check.same("behind " + t, x.force(t, 1, false), due[t]);
            }
            check.same("behind 10 and 13", x.force(10, 2, false), 16);
            // The greatest product on the way, 190049570 * 30, is beyond an int.
            RopeTackle y = Check.reeved("0000000000.0", 30, 300000);
            check.same("behind all", y.force(1000000, 21, false), 247064441);
        });
        check.sentence("The first strand of a pulley in the row has the force ahead of this pulley, "
            + "the second one that behind it", () -> {
            RopeTackle x = Check.reeved("01.4", 10, 60000);
            check.same("the pull on the first one", x.pull(0, 1000, true), 900 + 810);
            check.same("the pull on the second one", x.pull(1, 1000, true), 729 + 657);
        });
        check.sentence("The pull on a block is the sum of the forces in its strands", () -> {
            RopeTackle x = Check.reeved("010.0", 10, 100000);
            check.same("five strands", x.pull(0, 1000, true), 900 + 810 + 592 + 533 + 480);
            check.same("no strands", x.pull(3, 1000, true), 0);
        });
    }

    private static void leastForces() {
        check.sentence("the least whole force of the hand, 0 to 1000000, "
            + "with which the pull on it, hauling, is at least its weight", () -> {
            RopeTackle x = new RopeTackle();
            x.setWeight(0, 1000);
            check.same("583 pulls 998", x.pull(0, 583, true), 998);
            check.same("584 pulls 1000", x.pull(0, 584, true), 1000);
            check.same("for 1000", x.block(0, 4), 584);
            x.setWeight(0, 999);
            check.same("for 999", x.block(0, 4), 584);
            x.setWeight(0, 998);
            check.same("for 998", x.block(0, 4), 583);
            x.setWeight(0, 0);
            check.same("for 0", x.block(0, 4), 0);
            // No reeving has a lifting force from 999996 to 1000000.
            check.same("the greatest one", Check.reeved("0000001.4,0,41579", 25, 300000).block(1, 4), 999995);
        });
        check.sentence("the holding force is the least one with which the pull, held, is at least its weight", () -> {
            RopeTackle x = new RopeTackle();
            check.same("433 pulls 999", x.pull(0, 433, false), 999);
            check.same("434 pulls 1001", x.pull(0, 434, false), 1001);
            check.same("for 1000", x.block(0, 5), 434);
            x.setWeight(0, 1001);
            check.same("for 1001", x.block(0, 5), 434);
            x.setWeight(0, 999);
            check.same("for 999", x.block(0, 5), 433);
            x.setWeight(0, 0);
            check.same("for 0", x.block(0, 5), 0);
            RopeTackle y = Check.reeved(".0,50000", 0, 60000);
            check.same("the greatest one", y.block(0, 5), 50000);
        });
        check.sentence("A block without strands has none", () -> {
            RopeTackle x = Tackles.bare();
            x.setWeight(1, 0);
            for (int block = 0; block < 4; block++) {
                check.same("the lifting force of " + block, x.block(block, 4), RopeTackle.NONE);
                check.same("the holding force of " + block, x.block(block, 5), RopeTackle.NONE);
            }
        });
        check.sentence("neither has one for which 1000000 does not suffice", () -> {
            RopeTackle x = Check.reeved("00000000.1,0,18185", 21, 300000);
            check.same("1000000 pulls", x.pull(1, 1000000, true), 18185);
            check.holds("a weight for which it suffices", x.block(1, 4) <= 1000000 && x.block(1, 4) > 999900);
            // 1000001 would pull 18186.
            x.setWeight(1, 18186);
            check.same("a weight for which it does not", x.block(1, 4), RopeTackle.NONE);
        });
    }

    private static void hauling() {
        check.sentence("Hauling with a force, up to a length of rope", () -> {
            for (int length = 0; length <= 9; length++) {
                RopeTackle x = Check.reeved("0.1,100,101", 0, 60000);
                check.same("two strands", x.haul(50, length), length / 2 * 2);
                x.haul(50, 18000);
                check.same("one strand", x.haul(101, length), length);
            }
        });
        check.sentence("of the blocks below the top", () -> {
            RopeTackle x = Check.reeved("01.4,100,200", 0, 60000);
            x.haul(50, 17998);
            check.same("1 below the top it has its turn", x.haul(100, 2), 2);
            check.same("its height", x.block(0, 1), 9000);
            check.same("at the top it has none", x.haul(100, 2), 2);
            check.same("the other one's height", x.block(1, 1), 1);
        });
        check.sentence("with a lifting force that is at most the force", () -> {
            RopeTackle x = Check.reeved("01.4,100,0", 0, 60000);
            check.same("one less, and only the other one rises", x.haul(49, 100000), 18000);
            check.same("as much", x.haul(50, 2), 2);
            check.same("one more", x.haul(51, 2), 2);
            check.same("the height", x.block(0, 1), 2);
            RopeTackle most = Check.reeved("0000001.4,50000,41579", 25, 300000);
            most.haul(900000, 100000);
            most.haul(900000, 100000);
            check.same("one less than the greatest", most.haul(999994, 2), 0);
            check.same("the greatest", most.haul(999995, 2), 2);
        });
        check.sentence("the one with the least lifting force", () -> {
            RopeTackle x = Check.reeved("0123.4,400,300,200,100", 0, 100000);
            for (int block = 3; block >= 0; block--) {
                x.haul(1000, 18000);
                check.same("the next one", x.entry(0, 0), block);
            }
            RopeTackle y = Check.reeved("0123.4,100,200,300,400", 0, 100000);
            y.haul(1000, 100000);
            check.same("the first of all", y.entry(3, 0), 0);
            check.same("the last of all", y.entry(0, 0), 3);
        });
        check.sentence("of several the one with the lowest number, rises", () -> {
            RopeTackle x = Check.reeved("3210.4,100,100,100,100", 0, 100000);
            for (int block = 0; block < 4; block++) {
                check.same("haul", x.haul(1000, 18000), 18000);
                check.same("the next one", x.entry(0, 0), block);
            }
        });
        check.sentence("by the (length that is left) / (its strands)", () -> {
            RopeTackle x = Check.reeved("0.0,3", 0, 60000);
            int[] due = {0, 0, 0, 3, 3, 3, 6, 6};
            for (int length = 0; length < due.length; length++) {
                check.same("haul " + length, x.haul(1000, length), due[length]);
            }
        });
        check.sentence("but not above the top", () -> {
            int[] lengths = {26997, 26999, 27000, 27001, 27002, 27003, 100000};
            for (int length : lengths) {
                RopeTackle x = Check.reeved("0.0,3", 0, 60000);
                check.same("haul " + length, x.haul(1000, length), length < 27000 ? 26997 : 27000);
                check.same("the height", x.block(0, 1), length < 27000 ? 8999 : 9000);
            }
        });
        check.sentence("The length that is left falls by the strands times that", () -> {
            RopeTackle x = Check.reeved("0.1,2,100", 0, 60000);
            check.same("haul", x.haul(100, 18007), 18007);
            check.same("the first one's rope", x.entry(1, 2), 18000);
            check.same("the other one's way", x.entry(0, 1), 7);
        });
        check.sentence("So it goes on until there is no such block", () -> {
            RopeTackle x = Check.reeved("0123.4,2,4,6,8", 0, 100000);
            check.same("one is too heavy", x.haul(3, 100000), 54000);
            check.same("it stays", x.block(3, 1), 0);
            check.same("the last one", x.haul(4, 100000), 18000);
            check.same("none is left", x.haul(1000000, 100000), 0);
            RopeTackle y = Check.reeved("0123.4,2,4,6,8", 0, 100000);
            check.same("all in one hauling", y.haul(4, 100000), 72000);
            check.same("the rises", y.value(7), 4);
        });
        check.sentence("or the one whose turn it is rises by 0 (another one is not tried then)", () -> {
            RopeTackle x = Check.reeved("2001.4,1000,1000,1", 0, 100000);
            check.same("nothing is left", x.haul(1000, 18000), 18000);
            check.same("it has no turn", x.block(0, 1), 0);
            x.undo();
            check.same("3 are left for 4 strands", x.haul(1000, 18003), 18000);
            check.same("2 strands are not tried", x.block(1, 1), 0);
            check.same("at once", x.haul(1000, 3), 0);
            check.same("2 strands are not tried", x.block(1, 1), 0);
            check.same("4 for 4 strands", x.haul(1000, 4), 4);
        });
        check.sentence("What the rises took, together, is what is hauled", () -> {
            RopeTackle x = Check.reeved("01.0,3,8", 0, 100000);
            check.same("haul", x.haul(4, 27000 + 101), 27000 + 100);
            check.same("the first rise", x.entry(1, 2), 27000);
            check.same("the second rise", x.entry(0, 2), 100);
        });
    }

    private static void lettingOut() {
        check.sentence("Letting out with a force, up to a length of rope", () -> {
            for (int length = 0; length <= 9; length++) {
                RopeTackle x = Check.reeved("0.1,202,100", 0, 60000);
                x.haul(1000, 27000);
                check.same("two strands", x.letOut(100, length), length / 2 * 2);
                x.letOut(100, 18000);
                check.same("one strand", x.letOut(99, length), length);
            }
        });
        check.sentence("or as much as the hand has, if that is less", () -> {
            int[] hands = {0, 1, 98, 99, 100, 101, 102, 103};
            int[] due = {0, 0, 98, 98, 100, 100, 100, 100};
            for (int i = 0; i < hands.length; i++) {
                RopeTackle x = new RopeTackle();
                x.haul(1000, 18000);
                x.setLength(2000 + hands[i]);
                check.same("let out 100 of " + hands[i], x.letOut(0, 100), due[i]);
                check.same("the hand", x.value(1), hands[i] - due[i]);
            }
            for (int hand = 0; hand <= 3; hand++) {
                RopeTackle x = Check.reeved(".0,100", 0, 60000);
                x.haul(100, 9000);
                x.setLength(1000 + hand);
                check.same("let out 2 of " + hand, x.letOut(0, 2), Math.min(hand, 2));
            }
        });
        check.sentence("of the blocks above the floor", () -> {
            RopeTackle x = Check.reeved("01.4,200,100", 0, 60000);
            x.haul(50, 4);
            x.haul(100, 17996);
            x.haul(100, 2);
            check.same("the heights", x.block(1, 1) * 10 + x.block(0, 1), 90001);
            check.same("1 above the floor it has its turn", x.letOut(0, 2), 2);
            check.same("its height", x.block(0, 1), 0);
            check.same("on the floor it has none", x.letOut(0, 2), 2);
            check.same("the other one's height", x.block(1, 1), 8999);
        });
        check.sentence("with a holding force that is greater than the force", () -> {
            RopeTackle x = Check.reeved("0.4,100", 0, 60000);
            x.haul(50, 10000);
            check.same("one more", x.letOut(51, 2), 0);
            check.same("as much", x.letOut(50, 2), 0);
            check.same("one less", x.letOut(49, 2), 2);
            x.setWeight(0, 0);
            check.same("a holding force of 0", x.letOut(0, 2), 0);
            x.setWeight(0, 1);
            check.same("a holding force of 1", x.letOut(0, 2), 2);
            RopeTackle most = Check.reeved(".0,50000", 0, 60000);
            most.haul(50000, 100);
            check.same("the greatest holding force", most.letOut(50000, 1), 0);
            check.same("one less than it", most.letOut(49999, 1), 1);
        });
        check.sentence("the one with the greatest holding force", () -> {
            RopeTackle x = Check.reeved("0123.4,100,200,300,400", 0, 100000);
            x.haul(1000, 72000);
            for (int block = 3; block >= 0; block--) {
                x.letOut(0, 18000);
                check.same("the next one", x.entry(0, 0), block);
            }
            RopeTackle y = Check.reeved("0123.4,400,300,200,100", 0, 100000);
            y.haul(1000, 72000);
            y.letOut(0, 100000);
            check.same("the first of all", y.entry(3, 0), 0);
            check.same("the last of all", y.entry(0, 0), 3);
        });
        check.sentence("of several the one with the lowest number, sinks, likewise", () -> {
            RopeTackle x = Check.reeved("3210.4,100,100,100,100", 0, 100000);
            x.haul(1000, 72000);
            for (int block = 0; block < 4; block++) {
                check.same("let out", x.letOut(0, 18000), 18000);
                check.same("the next one", x.entry(0, 0), block);
            }
            RopeTackle y = Check.reeved("0.0,3", 0, 60000);
            y.haul(1000, 30);
            int[] due = {0, 0, 0, 3, 3, 3, 6, 6};
            for (int length = 0; length < due.length; length++) {
                check.same("let out " + length, y.letOut(0, length), due[length]);
            }
        });
        check.sentence("but not below the floor", () -> {
            int[] lengths = {27, 29, 30, 31, 32, 33, 100000};
            for (int length : lengths) {
                RopeTackle x = Check.reeved("0.0,3", 0, 60000);
                x.haul(1000, 30);
                check.same("let out " + length, x.letOut(0, length), length < 30 ? 27 : 30);
                check.same("the height", x.block(0, 1), length < 30 ? 1 : 0);
            }
        });
        check.sentence("and so on", () -> {
            RopeTackle x = Check.reeved("2001.4,1000,100,5000", 0, 100000);
            x.haul(5000, 72000);
            check.same("3 are left for 4 strands", x.letOut(0, 18003), 18000);
            check.same("2 strands are not tried", x.block(1, 1), 9000);
            check.same("at once", x.letOut(0, 3), 0);
            check.same("2 strands are not tried", x.block(1, 1), 9000);
            check.same("till none sinks by the force", x.letOut(50, 100000), 36000);
            check.same("it is held", x.block(1, 1), 9000);
            check.same("till none is above the floor", x.letOut(0, 100000), 18000);
            x.undo();
            x.undo();
            x.undo();
            x.undo();
            check.same("all in one letting out", x.letOut(0, 100000), 72000);
            check.same("the sinkings", x.value(8), 3);
        });
        check.sentence("What the sinkings took, together, is what is let out", () -> {
            RopeTackle x = Check.reeved("01.0,300,8", 0, 100000);
            x.haul(100, 45000);
            check.same("let out", x.letOut(0, 27000 + 101), 27000 + 100);
            check.same("the first sinking", x.entry(1, 2), -27000);
            check.same("the second sinking", x.entry(0, 2), -100);
        });
    }

    private static void work() {
        check.sentence("the force times the length that is hauled, for each hauling", () -> {
            RopeTackle x = new RopeTackle();
            x.haul(600, 101);
            check.same("not the length that was asked for", x.work(false), 600 * 100);
            x.haul(600, 1);
            x.haul(583, 100);
            check.same("nothing is hauled", x.work(false), 600 * 100);
            x.haul(1000000, 100000);
            check.same("the greatest force", x.work(false), 600 * 100 + 1000000L * 17900);
        });
        check.sentence("the weight times the way, for each rise", () -> {
            RopeTackle x = Check.reeved("01.4,50000,30", 0, 60000);
            x.haul(25000, 18000 + 2);
            check.same("two rises in one hauling", x.work(true), 30 * 9000 + 50000);
            x.setWeight(0, 0);
            x.haul(0, 2);
            check.same("a rise without weight", x.work(true), 30 * 9000 + 50000);
        });
        check.sentence("Letting out does not count for either", () -> {
            RopeTackle x = new RopeTackle();
            x.haul(1000, 100);
            check.same("let out", x.letOut(100, 60), 60);
            check.same("put in", x.work(false), 100000);
            check.same("got", x.work(true), 50000);
        });
    }

    private static void ledger() {
        check.sentence("Each rise and each sinking by more than 0 is put into a ledger", () -> {
            RopeTackle x = new RopeTackle();
            x.haul(1000, 1);
            x.haul(1000, 0);
            x.letOut(0, 100);
            check.same("moves by 0", x.value(9), 0);
            x.haul(1000, 2);
            check.same("a rise by 1", x.value(9), 1);
            check.same("its way", x.entry(0, 1), 1);
            x.letOut(0, 1);
            check.same("a sinking by 0", x.value(9), 1);
            x.letOut(0, 2);
            check.same("a sinking by 1", x.value(9), 2);
            check.same("its way", x.entry(0, 1), -1);
        });
        check.sentence("the latest 16 entries are kept", () -> {
            RopeTackle x = Check.reeved("0123.4,10,20,30,40", 0, 100000);
            for (int i = 1; i <= 15; i++) {
                x.haul(5, 2 * i);
            }
            check.same("15", x.value(9), 15);
            check.same("the eldest of 15", x.entry(14, 1), 1);
            x.haul(5, 32);
            check.same("16", x.value(9), 16);
            check.same("the eldest of 16", x.entry(15, 1), 1);
            x.haul(5, 34);
            check.same("17", x.value(9), 16);
            check.same("the eldest of 17", x.entry(15, 1), 2);
            check.same("the latest of 17", x.entry(0, 1), 17);
            x.haul(20, 100000);
            check.same("four more at once", x.value(9), 16);
            check.same("the eldest then", x.entry(15, 1), 6);
            check.same("the latest then", x.entry(0, 0), 3);
            check.same("the rises are counted on", x.value(7), 21);
        });
    }
}
