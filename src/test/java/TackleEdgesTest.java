/** The edges of the constants and of promises 1 to 9: each range, each exception, each answer. */
final class TackleEdgesTest {
    private static final Check check = new Check();

    public static void main(String[] args) {
        constants();
        newObject();
        setWeight();
        setFriction();
        setLength();
        addPulley();
        takePulley();
        setEnd();
        haul();
        letOut();
        check.end();
    }

    private static void constants() {
        check.sentence("NONE = -1: There is no such thing", () -> {
            check.same("NONE", RopeTackle.NONE, -1);
            check.same("as an answer", new RopeTackle().block(1, 4), RopeTackle.NONE);
        });
        check.sentence("BEAM = 4: The beam, as the end of the rope", () -> {
            check.same("BEAM", RopeTackle.BEAM, 4);
            check.same("as an answer", new RopeTackle().value(4), RopeTackle.BEAM);
        });
    }

    private static void newObject() {
        check.sentence("RopeTackle(): Creates a tackle as told, with an empty ledger", () -> {
            RopeTackle x = new RopeTackle();
            check.same("the entries", x.value(9), 0);
            check.refuses(x, "the latest entry", Check.INDEX, () -> x.entry(0, 0));
            check.same("the rises", x.value(7), 0);
            check.same("the sinkings", x.value(8), 0);
            check.same("the work put in", x.work(false), 0);
            check.same("the work got", x.work(true), 0);
            check.refuses(x, "undo()", Check.STATE, () -> x.undo());
            check.same("the text", x.clearText(), 0);
        });
    }

    private static void setWeight() {
        check.sentence("setWeight: block: 0 to 3", () -> {
            for (int block = 0; block < 4; block++) {
                RopeTackle x = new RopeTackle();
                x.setWeight(block, 7);
                for (int other = 0; other < 4; other++) {
                    check.same("the weight of " + other, x.block(other, 0), other == block ? 7 : 1000);
                }
            }
        });
        check.sentence("setWeight: weight: 0 to 50000", () -> {
            RopeTackle x = new RopeTackle();
            for (int weight : new int[] {0, 1, 49999, 50000}) {
                x.setWeight(3, weight);
                check.same("the weight", x.block(3, 0), weight);
            }
        });
        check.sentence("setWeight: Undoable", () -> undoable(x -> x.setWeight(2, 3)));
        check.sentence("setWeight: Returns the previous weight", () -> {
            RopeTackle x = new RopeTackle();
            check.same("the first one", x.setWeight(3, 50000), 1000);
            check.same("the greatest one", x.setWeight(3, 0), 50000);
            check.same("the least one", x.setWeight(3, 0), 0);
        });
        check.sentence("setWeight: Throws IndexOutOfBoundsException if there is no such block (0 to 3)", () ->
            check.refusesBeyond(0, 3, "setWeight", Check.INDEX, (x, block) -> x.setWeight(block, 5)));
        check.sentence("setWeight: Throws IllegalArgumentException if weight is out of range", () ->
            check.refusesBeyond(0, 50000, "setWeight", Check.ARGUMENT, (x, weight) -> x.setWeight(3, weight)));
    }

    private static void setFriction() {
        check.sentence("setFriction: friction: 0 to 30", () -> {
            RopeTackle x = new RopeTackle();
            for (int friction : new int[] {0, 1, 29, 30}) {
                x.setFriction(friction);
                check.same("the friction", x.value(2), friction);
                check.same("the force behind one", x.force(1000, 1, true), 1000 - 10 * friction);
            }
        });
        check.sentence("setFriction: Undoable", () -> undoable(x -> x.setFriction(1)));
        check.sentence("setFriction: Returns the previous friction", () -> {
            RopeTackle x = new RopeTackle();
            check.same("the first one", x.setFriction(30), 10);
            check.same("the greatest one", x.setFriction(0), 30);
            check.same("the least one", x.setFriction(0), 0);
        });
        check.sentence("setFriction: Throws IllegalArgumentException if friction is out of range", () ->
            check.refusesBeyond(0, 30, "setFriction", Check.ARGUMENT, (x, friction) -> x.setFriction(friction)));
    }

    private static void setLength() {
        check.sentence("setLength: length: 1000 to 300000", () -> {
            RopeTackle x = Tackles.bare();
            for (int length : new int[] {1000, 1001, 299999, 300000}) {
                x.setLength(length);
                check.same("the length", x.value(0), length);
            }
        });
        check.sentence("setLength: Undoable", () -> undoable(x -> x.setLength(250000)));
        check.sentence("setLength: Returns what the hand has then", () -> {
            RopeTackle x = new RopeTackle();
            check.same("the greatest length", x.setLength(300000), 280000);
            check.same("just enough", x.setLength(20000), 0);
            check.same("1 more", x.setLength(20001), 1);
            check.same("no strands", Tackles.bare().setLength(1000), 1000);
        });
        check.sentence("setLength: Throws IllegalArgumentException if length is out of range", () ->
            check.refusesBeyond(1000, 300000, "setLength", Check.ARGUMENT, (x, length) -> x.setLength(length)));
        check.sentence("setLength: Throws IllegalStateException if the hand would have less than 0 of the rope", () -> {
            check.refusesOn(RopeTackle::new, "1 too short", Check.STATE, x -> x.setLength(19999));
            check.refusesOn(RopeTackle::new, "the shortest", Check.STATE, x -> x.setLength(1000));
            RopeTackle full = Tackles.full();
            int least = full.value(6);
            check.refusesOn(Tackles::full, "1 too short, a full row", Check.STATE, x -> x.setLength(least - 1));
            check.same("just enough, a full row", full.setLength(least), 0);
            RopeTackle top = Check.reeved(".0,0", 0, 10000);
            top.haul(0, 9000);
            check.same("the shortest for one strand at the top", top.setLength(1000), 0);
        });
    }

    private static void addPulley() {
        check.sentence("addPulley: Puts one pulley more at the end of the row", () -> {
            RopeTackle x = Check.reeved("012.4", 10, 300000);
            x.addPulley(1);
            int[] due = {0, 1, 2, 1};
            for (int i = 0; i < due.length; i++) {
                check.same("the pulley " + i, x.pulley(i), due[i]);
            }
            RopeTackle none = Tackles.bare();
            none.addPulley(3);
            check.same("in an empty row", none.pulley(0), 3);
        });
        check.sentence("addPulley: block: 0 to 3", () -> {
            for (int block = 0; block < 4; block++) {
                RopeTackle x = Tackles.bare();
                x.addPulley(block);
                check.same("its strands", x.block(block, 2), 2);
            }
        });
        check.sentence("addPulley: Undoable", () -> undoable(x -> x.addPulley(3)));
        check.sentence("addPulley: Returns the number of pulleys in the row then", () -> {
            RopeTackle x = Check.reeved(".4", 10, 300000);
            for (int count = 1; count <= 10; count++) {
                check.same("addPulley", x.addPulley(count & 3), count);
            }
        });
        check.sentence("addPulley: Throws IndexOutOfBoundsException if there is no such block (0 to 3)", () ->
            check.refusesBeyond(0, 3, "addPulley", Check.INDEX, (x, block) -> x.addPulley(block)));
        check.sentence("addPulley: Throws IllegalStateException if there are 10", () -> {
            RopeTackle x = Check.reeved("000000000.4", 10, 300000);
            check.same("the tenth one", x.addPulley(0), 10);
            check.refusesOn(Tackles::full, "the eleventh one", Check.STATE, full -> full.addPulley(0));
        });
        check.sentence("addPulley: Throws IllegalStateException if .. "
            + "the hand would have less than 0 of the rope", () -> {
            check.same("just enough", Check.reeved("0.4", 10, 40000).addPulley(0), 2);
            check.refusesOn(() -> Check.reeved("0.4", 10, 39999), "1 too short", Check.STATE, x -> x.addPulley(0));
            check.refusesOn(() -> Check.reeved(".4", 10, 1000), "no rope", Check.STATE, x -> x.addPulley(3));
            RopeTackle top = Check.reeved("0.4", 10, 60000);
            top.haul(10000, 18000);
            top.setLength(21999);
            check.refuses(top, "1 too short for one on the floor", Check.STATE, () -> top.addPulley(1));
            check.same("enough for one at the top", top.addPulley(0), 2);
            check.same("the hand then", top.value(1), 17999);
        });
    }

    private static void takePulley() {
        check.sentence("takePulley: Takes the last pulley out of the row", () -> {
            RopeTackle x = Check.reeved("3123.4", 10, 300000);
            x.takePulley();
            check.same("the pulleys", x.value(3), 3);
            check.same("the last one", x.pulley(2), 2);
            check.refuses(x, "the one that is taken", Check.INDEX, () -> x.pulley(3));
            x.addPulley(0);
            check.same("another one in its place", x.pulley(3), 0);
        });
        check.sentence("takePulley: Undoable", () -> undoable(x -> x.takePulley()));
        check.sentence("takePulley: Returns its block", () -> {
            RopeTackle x = Check.reeved("0123012301.4", 10, 300000);
            for (int count = 9; count >= 0; count--) {
                check.same("takePulley()", x.takePulley(), count & 3);
                check.same("the pulleys", x.value(3), count);
            }
        });
        check.sentence("takePulley: Throws IllegalStateException if the row is empty", () -> {
            check.refusesOn(Tackles::bare, "the end on the beam", Check.STATE, x -> x.takePulley());
            check.refusesOn(() -> Check.reeved(".2", 10, 60000), "the end on a block", Check.STATE, x -> x.takePulley());
            check.same("there is one", new RopeTackle().takePulley(), 0);
        });
    }

    private static void setEnd() {
        check.sentence("setEnd: end: 0 to 4", () -> {
            for (int end = 0; end <= 4; end++) {
                RopeTackle x = Check.reeved(".4", 10, 60000);
                x.setEnd(end);
                check.same("the end", x.value(4), end);
                check.same("the strands' lengths", x.value(6), end == RopeTackle.BEAM ? 0 : 10000);
            }
        });
        check.sentence("setEnd: Undoable", () -> undoable(x -> x.setEnd(2)));
        check.sentence("setEnd: Returns the previous end", () -> {
            RopeTackle x = new RopeTackle();
            check.same("the beam", x.setEnd(0), 4);
            check.same("the least one", x.setEnd(3), 0);
            check.same("the greatest block", x.setEnd(4), 3);
            check.same("the beam again", x.setEnd(4), 4);
        });
        check.sentence("setEnd: Throws IndexOutOfBoundsException if there is no such end", () ->
            check.refusesBeyond(0, 4, "setEnd", Check.INDEX, (x, end) -> x.setEnd(end)));
        check.sentence("setEnd: Throws IllegalStateException if the hand would have less than 0 of the rope", () -> {
            check.same("just enough", Check.reeved("0.4", 10, 30000).setEnd(3), 4);
            for (int end = 0; end < 4; end++) {
                int one = end;
                check.refusesOn(() -> Check.reeved("0.4", 10, 29999), "1 too short", Check.STATE, x -> x.setEnd(one));
            }
            RopeTackle top = Check.reeved(".1,0,0", 10, 60000);
            top.haul(0, 9000);
            top.setLength(9999);
            check.refuses(top, "from a block at the top to one on the floor", Check.STATE, () -> top.setEnd(0));
            check.same("the same one", top.setEnd(1), 1);
            check.same("the beam", top.setEnd(4), 1);
        });
    }

    private static void haul() {
        check.sentence("haul: force: 0 to 1000000", () -> {
            RopeTackle x = new RopeTackle();
            check.same("the greatest force", x.haul(1000000, 2), 2);
            check.same("one less", x.haul(999999, 2), 2);
            check.same("no force", x.haul(0, 2), 0);
            x.setWeight(0, 0);
            check.same("no force, no weight", x.haul(0, 2), 2);
        });
        check.sentence("haul: length: 0 to 100000", () -> {
            RopeTackle x = Check.reeved("0000000000.4,0", 0, 300000);
            check.same("nothing", x.haul(0, 0), 0);
            check.same("the greatest length", x.haul(0, 100000), 100000);
            check.same("one less", x.haul(0, 99999), 80000);
        });
        check.sentence("haul: Undoable", () -> undoable(x -> x.haul(5000, 11)));
        check.sentence("haul: Returns the length of rope that is hauled", () -> {
            RopeTackle x = new RopeTackle();
            check.same("too little force", x.haul(583, 100000), 0);
            check.same("an odd length", x.haul(584, 101), 100);
            check.same("up to the top", x.haul(584, 100000), 17900);
            check.same("at the top", x.haul(584, 100000), 0);
            check.same("no strands", Tackles.bare().haul(1000000, 100000), 0);
        });
        check.sentence("haul: Throws IllegalArgumentException if an argument is out of range", () -> {
            check.refusesBeyond(0, 1000000, "haul, force", Check.ARGUMENT, (x, force) -> x.haul(force, 50));
            check.refusesBeyond(0, 100000, "haul, length", Check.ARGUMENT, (x, length) -> x.haul(2000, length));
            check.refusesAlways("haul, both", Check.ARGUMENT, x -> x.haul(-1, -1));
        });
    }

    private static void letOut() {
        check.sentence("letOut: force: 0 to 1000000", () -> {
            RopeTackle x = new RopeTackle();
            x.haul(1000, 1000);
            check.same("the greatest force", x.letOut(1000000, 2), 0);
            check.same("no force", x.letOut(0, 2), 2);
            check.same("force 1", x.letOut(1, 2), 2);
        });
        check.sentence("letOut: length: 0 to 100000", () -> {
            RopeTackle x = Check.reeved("0000000000.4,100", 0, 300000);
            x.haul(1000, 100000);
            x.haul(1000, 100000);
            check.same("nothing", x.letOut(0, 0), 0);
            check.same("the greatest length", x.letOut(0, 100000), 100000);
            check.same("one less", x.letOut(0, 99999), 80000);
        });
        check.sentence("letOut: Undoable", () -> undoable(x -> x.letOut(0, 11)));
        check.sentence("letOut: Returns the length of rope that is let out", () -> {
            RopeTackle x = new RopeTackle();
            check.same("on the floor", x.letOut(0, 100000), 0);
            x.haul(1000, 1000);
            check.same("it is held", x.letOut(434, 100000), 0);
            check.same("an odd length", x.letOut(433, 101), 100);
            check.same("down to the floor", x.letOut(433, 100000), 900);
            check.same("no strands", Tackles.bare().letOut(0, 100000), 0);
        });
        check.sentence("letOut: Throws IllegalArgumentException if an argument is out of range", () -> {
            check.refusesBeyond(0, 1000000, "letOut, force", Check.ARGUMENT, (x, force) -> x.letOut(force, 50));
            check.refusesBeyond(0, 100000, "letOut, length", Check.ARGUMENT, (x, length) -> x.letOut(0, length));
            check.refusesAlways("letOut, both", Check.ARGUMENT, x -> x.letOut(-1, -1));
        });
    }

    /** The call changes a used tackle, and undo takes just that back. */
    private static void undoable(Check.Call call) {
        RopeTackle x = Tackles.used();
        x.undo();
        long before = x.digest();
        call.on(x);
        long after = x.digest();
        check.holds("it changes more than the saved states", after != before && after != before + 1);
        check.same("undo()", x.undo(), 3);
        check.same("the state then", x.digest(), before);
    }
}
