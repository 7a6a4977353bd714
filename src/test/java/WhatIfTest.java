/** Promises 17 to 23: the what-if questions. */
final class WhatIfTest {
    private static final Check check = new Check();

    public static void main(String[] args) {
        first();
        forceForAll();
        pulleysFor();
        bestEnd();
        swapped();
        riseBy();
        efficiency();
        check.end();
    }

    private static void first() {
        RopeTackle x = Check.reeved("012.4,3000,1000,1000", 0, 100000);
        check.same("first(), of two the lowest", x.first(), 1);
        x.haul(500, 18000);
        check.same("first(), 1 is at the top", x.first(), 2);
        x.haul(500, 18000);
        check.same("first(), 2 is at the top", x.first(), 0);
        x.haul(1500, 18000);
        check.same("first(), all are at the top", x.first(), RopeTackle.NONE);
        check.same("first(), no strands", Check.reeved(".4", 0, 1000).first(), RopeTackle.NONE);
        // 1000000 does not suffice for 1, which is tied to the end behind 20 pulleys.
        RopeTackle y = Check.reeved("0000000000.1,50000,50000", 30, 300000);
        check.same("first(), one has no lifting force", y.first(), 0);
        y.haul(1000000, 100000);
        y.haul(1000000, 100000);
        check.same("first(), it is the only one left", y.first(), RopeTackle.NONE);
        RopeTackle z = Check.reeved("01.4,0,0", 10, 60000);
        check.same("first(), lifting forces of 0", z.first(), 0);
    }

    private static void forceForAll() {
        RopeTackle x = Check.reeved("012.4,1000,3000,2000", 0, 100000);
        check.same("forceForAll()", x.forceForAll(), 1500);
        check.same("haul with it", x.haul(1500, 100000), 54000);
        check.same("forceForAll(), all at the top", x.forceForAll(), 0);
        check.same("forceForAll(), no strands", Check.reeved(".4", 0, 1000).forceForAll(), 0);
        RopeTackle y = Check.reeved("0000000000.1,50000,50000", 30, 300000);
        check.same("forceForAll(), one has no lifting force", y.forceForAll(), RopeTackle.NONE);
        // The one that has none is at the top: it does not count.
        RopeTackle z = Check.reeved("0000000001.4,50000,0", 30, 300000);
        z.haul(0, 100000);
        z.setWeight(1, 50000);
        check.same("block 1 is at the top", z.block(1, 1), 9000);
        check.same("block 1 has no lifting force", z.block(1, 4), RopeTackle.NONE);
        check.same("forceForAll(), the others", z.forceForAll(), z.block(0, 4));
    }

    private static void pulleysFor() {
        RopeTackle x = Check.reeved("1.0,1000,2000", 0, 60000);
        check.same("pulleysFor(0, 500)", x.pulleysFor(0, 500), 1);
        check.same("pulleysFor(0, 499)", x.pulleysFor(0, 499), 2);
        check.same("pulleysFor(1, 500)", x.pulleysFor(1, 500), 2);
        check.same("pulleysFor(0, 50)", x.pulleysFor(0, 50), 10);
        check.same("pulleysFor(0, 49)", x.pulleysFor(0, 49), RopeTackle.NONE);
        check.same("pulleysFor(0, 0)", x.pulleysFor(0, 0), RopeTackle.NONE);
        check.same("pulleysFor(0, 1000000)", x.pulleysFor(0, 1000000), 1);
        x.setWeight(2, 0);
        check.same("pulleysFor(2, 0), no weight", x.pulleysFor(2, 0), 1);
        check.refuses(x, "pulleysFor(-1, 0)", Check.INDEX, () -> x.pulleysFor(-1, 0));
        check.refuses(x, "pulleysFor(4, -1)", Check.INDEX, () -> x.pulleysFor(4, -1));
        check.refuses(x, "pulleysFor(0, -1)", Check.ARGUMENT, () -> x.pulleysFor(0, -1));
        check.refuses(x, "pulleysFor(0, 1000001)", Check.ARGUMENT, () -> x.pulleysFor(0, 1000001));
        // With friction: 300 is 270, 243, 219, 198, 179, 162 behind the pulleys.
        RopeTackle y = new RopeTackle();
        y.setWeight(0, 270 + 243 + 219 + 198);
        check.same("pulleysFor(0, 300), just", y.pulleysFor(0, 300), 2);
        y.setWeight(0, 270 + 243 + 219 + 198 + 1);
        check.same("pulleysFor(0, 300), just not", y.pulleysFor(0, 300), 3);
        long before = y.digest();
        y.pulleysFor(0, 1);
        check.same("pulleysFor changes nothing", y.digest(), before);
    }

    private static void bestEnd() {
        RopeTackle x = Check.reeved("01.4,1000,1000", 0, 40000);
        check.same("bestEnd(0)", x.bestEnd(0), 0);
        check.same("bestEnd(1), though the hand is empty", x.bestEnd(1), 1);
        check.same("bestEnd(3), by the end alone", x.bestEnd(3), 3);
        x.setWeight(1, 0);
        check.same("bestEnd(1), no weight: the lowest", x.bestEnd(1), 0);
        check.same("bestEnd(2), no weight but no strands", x.bestEnd(2), 2);
        check.refuses(x, "bestEnd(-1)", Check.INDEX, () -> x.bestEnd(-1));
        check.refuses(x, "bestEnd(4)", Check.INDEX, () -> x.bestEnd(4));
        check.same("the end is as it was", x.value(4), 4);
        RopeTackle y = Check.reeved("0000000000.4,0,50000", 30, 300000);
        check.same("bestEnd(1), none with each", y.bestEnd(1), RopeTackle.NONE);
        // One strand more, of 0 or 1, does not lower the least force here: the lowest end wins.
        RopeTackle z = Check.reeved("1.4,0,1", 30, 60000);
        check.same("bestEnd(1), all the same", z.bestEnd(1), 0);
    }

    private static void swapped() {
        RopeTackle x = Check.reeved("01.4,1000,500", 10, 60000);
        check.same("swapped(0, 0, 1)", x.swapped(0, 0, 1), 719);
        check.same("swapped(0, 1, 0)", x.swapped(0, 1, 0), 719);
        check.same("swapped(1, 0, 1)", x.swapped(1, 0, 1), 292);
        check.same("swapped(0, 0, 0)", x.swapped(0, 0, 0), 584);
        check.same("swapped(2, 0, 1), no strands", x.swapped(2, 0, 1), RopeTackle.NONE);
        check.same("pulley(0) is as it was", x.pulley(0), 0);
        check.refuses(x, "swapped(-1, 0, 0)", Check.INDEX, () -> x.swapped(-1, 0, 0));
        check.refuses(x, "swapped(4, 0, 0)", Check.INDEX, () -> x.swapped(4, 0, 0));
        check.refuses(x, "swapped(0, 2, 0)", Check.INDEX, () -> x.swapped(0, 2, 0));
        check.refuses(x, "swapped(0, 0, 2)", Check.INDEX, () -> x.swapped(0, 0, 2));
        check.refuses(x, "swapped(0, -1, 0)", Check.INDEX, () -> x.swapped(0, -1, 0));
        check.refuses(x, "swapped(0, 0, -1)", Check.INDEX, () -> x.swapped(0, 0, -1));
        RopeTackle y = Check.reeved("1000000000.4,50000,50000", 30, 300000);
        check.same("swapped(1, 0, 9), to where it can't be lifted", y.swapped(1, 0, 9), RopeTackle.NONE);
    }

    private static void riseBy() {
        RopeTackle x = Check.reeved("0112.4,3000,2000,900", 0, 100000);
        long before = x.digest();
        check.same("riseBy(2, ..)", x.riseBy(2, 1500, 100), 50);
        check.same("riseBy(1, ..), 2 comes ahead", x.riseBy(1, 1500, 100), 0);
        check.same("riseBy(1, ..), behind 2", x.riseBy(1, 1500, 18400), 100);
        check.same("riseBy(0, ..), the last one", x.riseBy(0, 1500, 100000), 9000);
        check.same("riseBy(0, ..), too little force", x.riseBy(0, 1499, 100000), 0);
        check.same("riseBy(3, ..), no strands", x.riseBy(3, 1000000, 100000), 0);
        check.same("riseBy(0, 0, 0)", x.riseBy(0, 0, 0), 0);
        check.same("riseBy changes nothing", x.digest(), before);
        x.haul(450, 100);
        check.same("riseBy(2, ..), from where it is", x.riseBy(2, 450, 100000), 8950);
        check.refuses(x, "riseBy(-1, 0, 0)", Check.INDEX, () -> x.riseBy(-1, 0, 0));
        check.refuses(x, "riseBy(4, -1, 0)", Check.INDEX, () -> x.riseBy(4, -1, 0));
        check.refuses(x, "riseBy(0, -1, 0)", Check.ARGUMENT, () -> x.riseBy(0, -1, 0));
        check.refuses(x, "riseBy(0, 1000001, 0)", Check.ARGUMENT, () -> x.riseBy(0, 1000001, 0));
        check.refuses(x, "riseBy(0, 0, -1)", Check.ARGUMENT, () -> x.riseBy(0, 0, -1));
        check.refuses(x, "riseBy(0, 0, 100001)", Check.ARGUMENT, () -> x.riseBy(0, 0, 100001));
    }

    private static void efficiency() {
        RopeTackle x = new RopeTackle();
        check.sameDouble("efficiency(), no work", x.efficiency(), 0.0);
        x.haul(584, 100);
        check.sameDouble("efficiency()", x.efficiency(), 50000.0 / 58400.0);
        x.haul(1000000, 100);
        check.sameDouble("efficiency(), wasted", x.efficiency(), 100000.0 / 100058400.0);
        RopeTackle one = Check.reeved(".0,1", 0, 10000);
        one.haul(1, 1);
        check.sameDouble("efficiency(), the least work", one.efficiency(), 1.0);
        RopeTackle y = new RopeTackle();
        y.setWeight(0, 0);
        y.haul(0, 100);
        check.sameDouble("efficiency(), no force", y.efficiency(), 0.0);
        y.haul(5, 100);
        check.sameDouble("efficiency(), no weight", y.efficiency(), 0.0);
    }
}
