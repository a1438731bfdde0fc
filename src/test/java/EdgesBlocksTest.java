/** Each boundary that promises 6 to 20 and the parts "Blocks" and "Levers" name. */
public final class EdgesBlocksTest {
    /** Train 0 has left block 0, a wagon of it lies there, and the signal of block 0 is clear. */
    private static final String LOST = "railway;block 1 7;block 1 0;block 1 0;pull 0;train 0 2 3;pull 1;ticks 1";

    public static void main(String[] args) {
        tick();
        blockCount();
        blocksThatAreThere();
        lengthAndDepth();
        bendsAndLimits();
        signals();
        trains();
        lostWagons();
        departures();
        leverReasons();
        orderOfReasons();
        leverOfBendRoundTheRing();
        freeLevers();
        emptyBlocks();
        deepestBlock();
        differentDepths();
        Edge.end(6, 20);
    }

    private static void tick() {
        Edge.sentence("Promise 6", "Returns 0 to 9999.");
        PeatRailway x = Check.ring(Edge.ONE_TRAIN);
        Check.equal("tick(), the smallest", x.tick(), 0);
        x.advance(1);
        Check.equal("tick(), the next", x.tick(), 1);
        PeatRailway y = Edge.busyAtLastTick(Edge.ONE_TRAIN);
        Check.equal("tick(), the greatest", y.tick(), 9999);
        Check.raises("advance(1)", Check.STATE, () -> y.advance(1));
        Check.equal("tick() after a refused one", y.tick(), 9999);
    }

    private static void blockCount() {
        Edge.sentence("Promise 7", "Returns 0 to 10.");
        for (int count = 0; count <= 10; count++) {
            Check.equal("blockCount()", Check.ring("railway" + ";block 1 0".repeat(count)).blockCount(), count);
        }
        Edge.sentence("Blocks", "There are at most 10 blocks, numbered from 0");
        Edge.wrong(4, Edge.TEN_BLOCKS + ";^block 1 0");
        PeatRailway x = Check.ring(Edge.TEN_BLOCKS);
        Check.append(x, "block");
        Check.raises("load", Check.ARGUMENT, () -> x.load(5));
        Check.equal("blockCount() after a wrong text", x.blockCount(), 10);
    }

    private static void blocksThatAreThere() {
        Edge.noSuchBlock(8, "lengthOf", PeatRailway::lengthOf);
        Edge.noSuchBlock(9, "depthOf", PeatRailway::depthOf);
        Edge.noSuchBlock(10, "isBend", PeatRailway::isBend);
        Edge.noSuchBlock(11, "limitOf", PeatRailway::limitOf);
        Edge.noSuchBlock(12, "isClear", PeatRailway::isClear);
        Edge.noSuchBlock(13, "trainIn", PeatRailway::trainIn);
        Edge.noSuchBlock(14, "lostIn", PeatRailway::lostIn);
        Edge.noSuchBlock(15, "departuresFrom", PeatRailway::departuresFrom);
        Edge.noSuchBlock(16, "obstacle", PeatRailway::obstacle);
    }

    private static void lengthAndDepth() {
        Edge.sentence("Promise 8", "Returns 1 to 20.");
        PeatRailway x = Check.ring("railway;block 1 9;block 20 0;block 7 5");
        Check.equal("lengthOf(0), the smallest", x.lengthOf(0), 1);
        Check.equal("lengthOf(1), the greatest", x.lengthOf(1), 20);
        Check.equal("lengthOf(2)", x.lengthOf(2), 7);
        Edge.sentence("Promise 9", "Returns 0 to 9.");
        Check.equal("depthOf(0), the greatest", x.depthOf(0), 9);
        Check.equal("depthOf(1), the smallest", x.depthOf(1), 0);
        Check.equal("depthOf(2)", x.depthOf(2), 5);
        x.repair(0);
        Check.equal("depthOf(0) after a repair", x.depthOf(0), 0);
        PeatRailway y = Check.ring("railway;block 1 9;block 1 0;train 0 12 5;pull 1;ticks 1");
        Check.equal("depthOf(0), not above the greatest", y.depthOf(0), 9);
    }

    private static void bendsAndLimits() {
        Edge.sentence("Promise 11", "Returns 1 to 5.");
        PeatRailway x = Check.ring("railway;block 1 0 bend 1;block 1 0 bend 2;block 1 0 bend 3;block 1 0 bend 4;block 1 0 bend 5");
        for (int block = 0; block < 5; block++) {
            Check.equal("limitOf(" + block + ")", x.limitOf(block), block + 1);
        }
        Edge.sentence("Promise 10", "Returns true if it is.");
        for (int block = 0; block < 5; block++) {
            Check.equal("isBend(" + block + ")", x.isBend(block), true);
        }
        PeatRailway y = Check.ring("railway;block 1 0 bend 5;block 1 0;train 1 1 1");
        Check.equal("isBend(0) with the limit of any other block", y.isBend(0), true);
        Check.equal("isBend(1)", y.isBend(1), false);
        Edge.sentence("Blocks", "the speed limit of any other block is 5.");
        Check.equal("limitOf(1)", y.limitOf(1), 5);
        Check.equal("limitOf(9)", Check.ring(Edge.TEN_BLOCKS).limitOf(9), 5);
    }

    private static void signals() {
        Edge.sentence("Promise 12", "Returns true if it is clear.");
        Edge.sentence("Blocks", "which is at danger (at first) or clear.");
        PeatRailway x = Check.ring(Edge.TEN_BLOCKS);
        for (int block = 0; block < 10; block++) {
            Check.equal("isClear(" + block + ") at first", x.isClear(block), false);
        }
        for (int block = 0; block < 10; block++) {
            x.pull(block);
            for (int other = 0; other < 10; other++) {
                Check.equal("isClear(" + other + ") after pull(" + block + ")", x.isClear(other), other <= block);
            }
        }
        x.setDanger(9);
        x.setDanger(0);
        Check.equal("isClear(9) at danger", x.isClear(9), false);
        Check.equal("isClear(0) at danger", x.isClear(0), false);
        Check.equal("isClear(8) still", x.isClear(8), true);
    }

    private static void trains() {
        Edge.sentence("Promise 13", "Returns the train; NONE if there is none.");
        PeatRailway x = Check.ring(Edge.FIVE_TRAINS);
        for (int block = 0; block < 5; block++) {
            Check.equal("trainIn(" + block + ")", x.trainIn(block), block);
        }
        Check.equal("trainIn(5)", x.trainIn(5), PeatRailway.NONE);
        x.pull(5);
        x.advance(5);
        Check.equal("trainIn(4), the train having left", x.trainIn(4), PeatRailway.NONE);
        Check.equal("trainIn(5), the train having come", x.trainIn(5), 4);
        Check.equal("trainIn(0) with a lost wagon", Check.ring(LOST).trainIn(0), PeatRailway.NONE);
        Edge.sentence("Blocks", "A block holds at most one train.");
        x.pull(4);
        x.advance(99);
        Check.equal("trainIn(5), the train before it waiting", x.trainIn(5), 4);
        Check.equal("sharedBlocks()", x.sharedBlocks(), 0);
    }

    private static void lostWagons() {
        Edge.sentence("Promise 14", "Returns the number of wagons.");
        Edge.sentence("Blocks", "a number of lost wagons (0 at first).");
        for (int block = 0; block < 10; block++) {
            Check.equal("lostIn(" + block + ") at first", Check.ring(Edge.TEN_BLOCKS).lostIn(block), 0);
        }
        PeatRailway x = Check.ring(LOST);
        Check.equal("lostIn(0)", x.lostIn(0), 1);
        Check.equal("lostIn(1)", x.lostIn(1), 0);
        Check.equal("lostIn(2)", x.lostIn(2), 0);
        x.removeWagons(0);
        Check.equal("lostIn(0) without it", x.lostIn(0), 0);
        Edge.sentence("Blocks", "A block is occupied if there is a train or at least one lost wagon in it.");
        PeatRailway y = Check.ring(LOST);
        Check.equal("emptyBlocks() with a train and a lost wagon", y.emptyBlocks(), 1);
        y.removeWagons(0);
        Check.equal("emptyBlocks() with a train", y.emptyBlocks(), 2);
    }

    private static void departures() {
        Edge.sentence("Promise 15", "Returns the number of times.");
        PeatRailway x = Check.ring("railway;block 1 0;block 1 0;train 0 1 1");
        Check.equal("departuresFrom(0) at first", x.departuresFrom(0), 0);
        x.advance(9);
        Check.equal("departuresFrom(0) while it waits", x.departuresFrom(0), 0);
        for (int times = 1; times <= 20; times++) {
            x.pull(times % 2);
            x.advance(1);
            Check.equal("departuresFrom(0) after " + times, x.departuresFrom(0), (times + 1) / 2);
            Check.equal("departuresFrom(1) after " + times, x.departuresFrom(1), times / 2);
        }
        x.undo();
        Check.equal("departuresFrom(1) after undo", x.departuresFrom(1), 9);
        // the last train counts as the first does
        PeatRailway y = Check.ring(Edge.FIVE_TRAINS);
        y.pull(5);
        y.advance(1);
        Check.equal("departuresFrom(4) by train 4", y.departuresFrom(4), 1);
        Check.equal("departuresFrom(5)", y.departuresFrom(5), 0);
        PeatRailway z = Check.ring("railway" + ";block 1 0".repeat(10) + ";train 9 1 1;pull 0;ticks 1");
        Check.equal("departuresFrom(9) for block 0", z.departuresFrom(9), 1);
        Check.equal("departuresFrom(0)", z.departuresFrom(0), 0);
    }

    private static void leverReasons() {
        Edge.sentence("Promise 16", "Returns the first reason that applies, 1 to 4; 0 if there is no obstacle.");
        PeatRailway x = Check.ring("railway;block 5 0;block 5 0;train 0 1 1");
        Check.equal("obstacle(0)", x.obstacle(0), 1);
        Check.equal("obstacle(1)", x.obstacle(1), 0);
        Check.equal("obstacle(0) with a lost wagon", Check.ring(LOST).obstacle(0), 2);
        x.pull(1);
        Check.equal("obstacle(1) when it is clear", x.obstacle(1), 3);
        x.setDanger(1);
        Check.equal("obstacle(1) at danger again", x.obstacle(1), 0);
        PeatRailway y = Check.ring("railway;block 5 0 bend 1;block 5 0;train 1 1 1");
        Check.equal("obstacle(0) of a bend before a train", y.obstacle(0), 4);
        PeatRailway z = Check.ring("railway;block 5 0;block 5 0;train 1 1 1");
        Check.equal("obstacle(0) of no bend before a train", z.obstacle(0), 0);
        PeatRailway w = Check.ring("railway;block 5 0 bend 1;block 5 0;train 0 1 1");
        Check.equal("obstacle(1) of no bend before a bend with a train", w.obstacle(1), 0);
        Check.equal("obstacle(0) of a bend before a free block", Check.ring("railway;block 5 0 bend 1;block 5 0").obstacle(0), 0);
    }

    private static void orderOfReasons() {
        Edge.sentence("Levers", "There is an obstacle to that for the first of the following reasons that applies.");
        Check.equal("1 before 3", Check.ring("railway;block 5 0;pull 0;train 0 1 1").obstacle(0), 1);
        Check.equal("1 before 4", Check.ring("railway;block 5 0 bend 5;block 5 0;train 0 1 1;train 1 1 1").obstacle(0), 1);
        Check.equal("1 before 3 and 4",
                Check.ring("railway;block 5 0 bend 5;block 5 0;pull 0;train 0 1 1;train 1 1 1").obstacle(0), 1);
        Check.equal("2 before 3", Check.ring(LOST).obstacle(0), 2);
        // the train that has lost the wagon stands behind the bend
        String bend = LOST.replace("block 1 7", "block 1 7 bend 3").replace("pull 0;", "");
        Check.equal("2 before 4", Check.ring(bend).obstacle(0), 2);
        Check.equal("2 before 3 and 4", Check.ring(LOST.replace("block 1 7", "block 1 7 bend 3")).obstacle(0), 2);
        Check.equal("3 before 4", Check.ring("railway;block 5 0 bend 5;block 5 0;pull 0;train 1 1 1").obstacle(0), 3);
        PeatRailway x = Check.ring(bend);
        x.removeWagons(0);
        Check.equal("4 alone", x.obstacle(0), 4);
        x.pull(2);
        x.advance(1);
        Check.equal("none, the train having gone on", x.obstacle(0), 0);
    }

    private static void leverOfBendRoundTheRing() {
        Edge.sentence("Levers", "the block is a bend, and the block after it is occupied.");
        // block 0 is the block after the last one
        for (int count = 2; count <= 10; count++) {
            String before = "railway" + ";block 1 0".repeat(count - 1) + ";block 1 0 bend 5";
            int last = count - 1;
            Check.equal("obstacle of the last of " + count + " before a train", Check.ring(before + ";train 0 1 1").obstacle(last), 4);
            Check.equal("obstacle of the last of " + count, Check.ring(before).obstacle(last), 0);
        }
        Check.equal("obstacle(2) with a train behind it",
                Check.ring("railway;block 1 0;block 1 0;block 1 0 bend 5;train 1 1 1").obstacle(2), 0);
        Check.equal("obstacle(2) before a lost wagon",
                Check.ring(LOST.replace("block 1 0;pull", "block 1 0 bend 5;pull")).obstacle(2), 4);
        Check.equal("obstacle(0) of one", Check.ring("railway;block 1 0 bend 1").obstacle(0), 0);
        Check.equal("obstacle(0) of one with a train", Check.ring("railway;block 1 0 bend 1;train 0 1 1").obstacle(0), 1);
    }

    private static void freeLevers() {
        Edge.sentence("Promise 17", "Counts the blocks whose signal can be cleared now.");
        Check.equal("freeLevers() without blocks", Check.ring(Edge.NO_BLOCKS).freeLevers(), 0);
        PeatRailway x = Check.ring(Edge.TEN_BLOCKS);
        for (int block = 0; block < 10; block++) {
            Check.equal("freeLevers() with " + block + " clear", x.freeLevers(), 10 - block);
            x.pull(block);
        }
        Check.equal("freeLevers() with all clear", x.freeLevers(), 0);
        Check.equal("freeLevers() with a train", Check.ring(Edge.ONE_TRAIN).freeLevers(), 1);
        Check.equal("freeLevers() with a train and a lost wagon", Check.ring(LOST).freeLevers(), 1);
        Check.equal("freeLevers() of bends in a row, the first before a train",
                Check.ring("railway;block 1 0 bend 1;block 1 0;block 1 0 bend 1;train 1 1 1").freeLevers(), 1);
        Check.equal("freeLevers() of one", Check.ring(Edge.ONE_BLOCK).freeLevers(), 1);
    }

    private static void emptyBlocks() {
        Edge.sentence("Promise 18", "Counts the blocks that are not occupied.");
        Check.equal("emptyBlocks() without blocks", Check.ring(Edge.NO_BLOCKS).emptyBlocks(), 0);
        Check.equal("emptyBlocks() of ten", Check.ring(Edge.TEN_BLOCKS).emptyBlocks(), 10);
        Check.equal("emptyBlocks() of one with a train", Check.ring("railway;block 1 0;train 0 1 1").emptyBlocks(), 0);
        Check.equal("emptyBlocks() with five trains", Check.ring(Edge.FIVE_TRAINS).emptyBlocks(), 1);
        Check.equal("emptyBlocks() with a clear signal", Check.ring("railway;block 1 0;pull 0").emptyBlocks(), 1);
        Check.equal("emptyBlocks() of two with a train and a lost wagon",
                Check.ring("railway;block 1 7;block 1 0;train 0 2 3;pull 1;ticks 1").emptyBlocks(), 0);
    }

    private static void deepestBlock() {
        Edge.sentence("Promise 19", "on a tie the one with the smallest number; NONE without blocks.");
        Check.equal("deepestBlock() without blocks", Check.ring(Edge.NO_BLOCKS).deepestBlock(), PeatRailway.NONE);
        Check.equal("deepestBlock() of one of depth 0", Check.ring("railway;block 1 0").deepestBlock(), 0);
        Check.equal("deepestBlock() of ten on a tie", Check.ring(Edge.TEN_BLOCKS).deepestBlock(), 0);
        for (int block = 0; block < 10; block++) {
            String text = "railway" + ";block 1 4".repeat(block) + ";block 1 5" + ";block 1 4".repeat(9 - block);
            Check.equal("deepestBlock()", Check.ring(text).deepestBlock(), block);
            Check.equal("deepestBlock() on a tie of the rest",
                    Check.ring(text.replace(" 4", " 9")).deepestBlock(), block == 0 ? 1 : 0);
        }
        Check.equal("deepestBlock() on a tie behind", Check.ring("railway;block 1 3;block 1 9;block 1 9").deepestBlock(), 1);
    }

    private static void differentDepths() {
        Edge.sentence("Promise 20", "Counts the different depths of the blocks.");
        Check.equal("differentDepths() without blocks", Check.ring(Edge.NO_BLOCKS).differentDepths(), 0);
        Check.equal("differentDepths() of one of depth 0", Check.ring("railway;block 1 0").differentDepths(), 1);
        Check.equal("differentDepths() of ten alike", Check.ring(Edge.TEN_BLOCKS).differentDepths(), 1);
        Check.equal("differentDepths() of 0 and 9", Check.ring("railway;block 1 9;block 1 0;block 1 9").differentDepths(), 2);
        StringBuilder text = new StringBuilder("railway");
        for (int depth = 9; depth >= 0; depth--) {
            text.append(";block 1 ").append(depth);
            Check.equal("differentDepths() from 9 to " + depth, Check.ring(text.toString()).differentDepths(), 10 - depth);
        }
    }
}
