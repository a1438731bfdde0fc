/** Promises 6 to 20: the questions about blocks. */
public final class BlocksTest {
    public static void main(String[] args) {
        tickAndCount();
        plainQuestions();
        departures();
        obstacles();
        sums();
        Check.end();
    }

    private static void tickAndCount() {
        PeatRailway x = Check.ring("railway");
        Check.equal("tick()", x.tick(), 0);
        Check.equal("blockCount()", x.blockCount(), 0);
        for (int part = 1; part <= 101; part++) {
            x.advance(99);
        }
        Check.equal("tick() at the end", x.tick(), 9999);
        Check.equal("blockCount() of ten", Check.ring("railway" + ";block 1 0".repeat(10)).blockCount(), 10);
        Check.equal("tick() by text", Check.ring("railway;ticks 99;ticks 1").tick(), 100);
    }

    private static void plainQuestions() {
        PeatRailway x = Check.ring("railway;block 20 9 bend 5;block 1 0 bend 1;block 7 4;train 1 2 3;pull 2");
        Check.equal("lengthOf(0)", x.lengthOf(0), 20);
        Check.equal("lengthOf(1)", x.lengthOf(1), 1);
        Check.equal("depthOf(0)", x.depthOf(0), 9);
        Check.equal("depthOf(1)", x.depthOf(1), 0);
        Check.equal("isBend(0)", x.isBend(0), true);
        Check.equal("isBend(1)", x.isBend(1), true);
        Check.equal("isBend(2)", x.isBend(2), false);
        Check.equal("limitOf(0)", x.limitOf(0), 5);
        Check.equal("limitOf(1)", x.limitOf(1), 1);
        Check.equal("limitOf(2)", x.limitOf(2), 5);
        Check.equal("isClear(1)", x.isClear(1), false);
        Check.equal("isClear(2)", x.isClear(2), true);
        Check.equal("trainIn(0)", x.trainIn(0), PeatRailway.NONE);
        Check.equal("trainIn(1)", x.trainIn(1), 0);
        x.advance(1);
        Check.equal("trainIn(1) after it left", x.trainIn(1), PeatRailway.NONE);
        Check.equal("trainIn(2) after it came", x.trainIn(2), 0);
        Check.equal("isClear(2) after it came", x.isClear(2), false);
        PeatRailway y = Check.ring("railway;block 3 7;block 3 0;train 0 2 3;pull 1;ticks 1");
        Check.equal("lostIn(0)", y.lostIn(0), 1);
        Check.equal("lostIn(1)", y.lostIn(1), 0);
        Check.equal("depthOf(0)", y.depthOf(0), 8);
    }

    private static void departures() {
        // train 0 leaves block 1, then train 1 leaves blocks 0 and 1
        PeatRailway x = Check.ring("railway;block 1 0;block 1 0;block 1 0;block 1 0;train 1 1 1;train 0 1 1;"
                + "pull 2;pull 3;ticks 2;pull 1;ticks 1;pull 2;ticks 1");
        Check.equal("departuresFrom(0)", x.departuresFrom(0), 1);
        Check.equal("departuresFrom(1) of two trains", x.departuresFrom(1), 2);
        Check.equal("departuresFrom(2)", x.departuresFrom(2), 1);
        Check.equal("departuresFrom(3)", x.departuresFrom(3), 0);
        PeatRailway y = Check.ring("railway;block 2 0;block 2 0;train 0 1 2;pull 1;ticks 1;pull 0;ticks 1;pull 1;ticks 1");
        Check.equal("departuresFrom(0)", y.departuresFrom(0), 2);
        Check.equal("departuresFrom(1)", y.departuresFrom(1), 1);
    }

    private static void obstacles() {
        PeatRailway x = Check.ring("railway;block 3 7;block 3 0;block 3 0 bend 2;block 3 0 bend 2;block 3 0;"
                + "train 0 3 3;pull 1;ticks 1");
        Check.equal("lost wagons", x.obstacle(0), 2);
        Check.equal("a train", x.obstacle(1), 1);
        Check.equal("nothing", x.obstacle(2), 0);
        Check.equal("nothing before a free block", x.obstacle(3), 0);
        Check.equal("no bend before an occupied block", x.obstacle(4), 0);
        x.pull(3);
        Check.equal("clear", x.obstacle(3), 3);
        // a bend before a train, before lost wagons, and at the end of the ring
        PeatRailway y = Check.ring("railway;block 3 0;block 3 0 bend 5;block 3 9;block 3 0;pull 1;train 2 3 3;pull 3");
        Check.equal("clear comes before the bend", y.obstacle(1), 3);
        y.setDanger(1);
        Check.equal("a bend before a train", y.obstacle(1), 4);
        y.advance(1);
        Check.equal("a bend before lost wagons", y.obstacle(1), 4);
        y.removeWagons(2);
        Check.equal("a bend before a free block", y.obstacle(1), 0);
        PeatRailway z = Check.ring("railway;block 3 0;block 3 0 bend 5;train 0 1 1");
        Check.equal("the bend at the end of the ring", z.obstacle(1), 4);
        // a train comes before a clear signal, a clear signal before nothing else
        PeatRailway w = Check.ring("railway;block 3 0 bend 2;pull 0;train 0 1 1");
        Check.equal("a train in a block with a clear signal", w.obstacle(0), 1);
        // a train comes before everything, also in a bend before an occupied block
        PeatRailway v = Check.ring("railway;block 3 0 bend 2;block 3 0;train 0 1 1;train 1 1 1");
        Check.equal("a train in a bend before a train", v.obstacle(0), 1);
        // lost wagons come before a clear signal
        PeatRailway u = Check.ring("railway;block 1 9;pull 0;block 1 0;train 0 5 5;pull 1;ticks 1");
        Check.equal("isClear(0)", u.isClear(0), true);
        Check.equal("lost wagons behind a clear signal", u.obstacle(0), 2);
        u.removeWagons(0);
        Check.equal("the clear signal alone", u.obstacle(0), 3);
        Check.equal("a ring of one bend", Check.ring("railway;block 1 0 bend 1").obstacle(0), 0);
    }

    private static void sums() {
        PeatRailway none = Check.ring("railway");
        Check.equal("freeLevers() without blocks", none.freeLevers(), 0);
        Check.equal("emptyBlocks() without blocks", none.emptyBlocks(), 0);
        Check.equal("deepestBlock() without blocks", none.deepestBlock(), PeatRailway.NONE);
        Check.equal("differentDepths() without blocks", none.differentDepths(), 0);
        PeatRailway x = Check.ring("railway;block 3 9;block 3 0;block 3 4 bend 2;block 3 9;block 3 0;"
                + "train 0 3 3;pull 1;ticks 1;train 3 1 1;pull 4");
        // block 0 holds a lost wagon, 1 a train, 2 is a bend before a train, 3 holds a train, 4 is clear
        Check.equal("freeLevers()", x.freeLevers(), 0);
        Check.equal("emptyBlocks()", x.emptyBlocks(), 2);
        Check.equal("deepestBlock()", x.deepestBlock(), 0);
        Check.equal("differentDepths()", x.differentDepths(), 3);
        x.removeWagons(0);
        Check.equal("freeLevers() with one more", x.freeLevers(), 1);
        Check.equal("emptyBlocks() with one more", x.emptyBlocks(), 3);
        x.setDanger(4);
        Check.equal("freeLevers() with two more", x.freeLevers(), 2);
        x.repair(0);
        Check.equal("deepestBlock() on no tie", x.deepestBlock(), 3);
        Check.equal("deepestBlock() with all at 0", Check.ring("railway;block 1 0;block 1 0").deepestBlock(), 0);
        Check.equal("differentDepths() of ten", Check.ring("railway;block 1 0;block 1 1;block 1 2;block 1 3;block 1 4;"
                + "block 1 5;block 1 6;block 1 7;block 1 8;block 1 9").differentDepths(), 10);
        Check.equal("deepestBlock() of a rising row", Check.ring("railway;block 1 0;block 1 1;block 1 2").deepestBlock(), 2);
    }
}
