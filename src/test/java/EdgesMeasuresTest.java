/** Each boundary that promises 36 to 42 name: the measures. */
public final class EdgesMeasuresTest {
    /** A train of twelve wagons goes from block 0 to block 9 and leaves one wagon in each of nine blocks. */
    private static final String LOSSY = "railway" + ";block 1 9".repeat(10)
            + ";train 0 12 5;pull 1;pull 2;pull 3;pull 4;pull 5;pull 6;pull 7;pull 8;pull 9";

    public static void main(String[] args) {
        totalWagons();
        lostWagons();
        removedWagons();
        sharedBlocks();
        wagonDifference();
        meanDepth();
        waitShare();
        Edge.end(36, 42);
    }

    private static void totalWagons() {
        Edge.sentence("Promise 36", "Returns the number of wagons of all trains.");
        Check.equal("totalWagons() of nothing", Check.ring(Edge.NO_BLOCKS).totalWagons(), 0);
        Check.equal("totalWagons() without trains", Check.ring(Edge.TEN_BLOCKS).totalWagons(), 0);
        Check.equal("totalWagons() of one of one", Check.ring("railway;block 1 0;train 0 1 1").totalWagons(), 1);
        PeatRailway x = Check.ring(Edge.FIVE_TRAINS);
        Check.equal("totalWagons() of five", x.totalWagons(), 15);
        for (int train = 0; train < 5; train++) {
            x.addWagons(train, 12 - x.wagonsOf(train));
        }
        Check.equal("totalWagons(), the greatest", x.totalWagons(), 60);
        PeatRailway y = Check.ring(LOSSY);
        for (int lost = 0; lost <= 9; lost++) {
            Check.equal("totalWagons() with " + lost + " lost", y.totalWagons(), 12 - lost);
            y.advance(1);
        }
    }

    private static void lostWagons() {
        Edge.sentence("Promise 37", "Returns the number of lost wagons in all blocks.");
        Check.equal("lostWagons() of nothing", Check.ring(Edge.NO_BLOCKS).lostWagons(), 0);
        Check.equal("lostWagons() without trains", Check.ring(Edge.TEN_BLOCKS).lostWagons(), 0);
        PeatRailway x = Check.ring(LOSSY);
        for (int lost = 0; lost <= 9; lost++) {
            Check.equal("lostWagons() after " + lost, x.lostWagons(), lost);
            x.advance(1);
        }
        Check.equal("lostWagons() at the end", x.lostWagons(), 9);
        for (int block = 8; block >= 0; block--) {
            x.removeWagons(block);
            Check.equal("lostWagons() down to " + block, x.lostWagons(), block);
        }
    }

    private static void removedWagons() {
        Edge.sentence("Promise 38", "Returns the number of lost wagons that were taken away.");
        Check.equal("removedWagons() of nothing", Check.ring(Edge.NO_BLOCKS).removedWagons(), 0);
        PeatRailway x = Check.ring(LOSSY);
        x.advance(9);
        Check.equal("removedWagons() at first", x.removedWagons(), 0);
        for (int block = 0; block <= 8; block++) {
            x.removeWagons(block);
            x.removeWagons(block);
            Check.equal("removedWagons() after " + block, x.removedWagons(), block + 1);
        }
        x.removeWagons(9);
        Check.equal("removedWagons(), none being lost", x.removedWagons(), 9);
        x.undo();
        x.undo();
        Check.equal("removedWagons() when the last taking of none is undone", x.removedWagons(), 9);
        x.undo();
        Check.equal("removedWagons() when the last taking is undone", x.removedWagons(), 8);
        Check.load(x, Edge.ONE_TRAIN);
        Check.equal("removedWagons() after load", x.removedWagons(), 0);
    }

    private static void sharedBlocks() {
        Edge.sentence("Promise 39", "Returns the number of pairs of trains in the same block; always 0.");
        for (String text : new String[] {Edge.NO_BLOCKS, Edge.ONE_BLOCK, Edge.ONE_TRAIN, Edge.FIVE_TRAINS, LOSSY}) {
            PeatRailway x = Check.ring(text);
            Check.equal("sharedBlocks()", x.sharedBlocks(), 0);
            x.advance(20);
            Check.equal("sharedBlocks() later", x.sharedBlocks(), 0);
        }
        PeatRailway row = Check.ring("railway" + ";block 1 0".repeat(6) + ";pull 1;pull 2;pull 3;pull 4;pull 5"
                + ";train 0 1 1;train 1 1 1;train 2 1 1;train 3 1 1;train 4 1 1");
        for (int tick = 1; tick <= 9; tick++) {
            row.advance(1);
            Check.equal("sharedBlocks() of a row, all signals ahead being clear", row.sharedBlocks(), 0);
        }
    }

    private static void wagonDifference() {
        Edge.sentence("Promise 40", "minus the wagons that were added later; always 0.");
        for (String text : new String[] {Edge.NO_BLOCKS, Edge.ONE_BLOCK, Edge.ONE_TRAIN, Edge.FIVE_TRAINS, LOSSY}) {
            Check.equal("wagonDifference()", Check.ring(text).wagonDifference(), 0);
        }
        PeatRailway x = Check.ring(LOSSY);
        difference(x, "at first");
        x.save(0);
        x.advance(3);
        difference(x, "after wagons were lost");
        x.addWagons(0, 3);
        difference(x, "after wagons were added");
        x.removeWagons(1);
        difference(x, "after a wagon was taken away");
        x.save(1);
        x.removeWagons(5);
        difference(x, "after none was taken away");
        x.restore(0);
        difference(x, "after restore");
        x.restore(1);
        difference(x, "after another restore");
        for (int left = 5; left >= 0; left--) {
            Check.equal("undo()", x.undo(), left);
            difference(x, "after undo");
        }
        PeatRailway full = Check.ring(Edge.ONE_TRAIN);
        full.addWagons(0, 10);
        difference(full, "of a full train");
    }

    private static void difference(PeatRailway x, String when) {
        Check.equal("wagonDifference() " + when, x.wagonDifference(), 0);
    }

    private static void meanDepth() {
        Edge.sentence("Promise 41", "divided by the number of blocks as a double; 0.0 without blocks.");
        Check.exact("meanDepth() without blocks", Check.ring(Edge.NO_BLOCKS).meanDepth(), 0.0);
        Check.exact("meanDepth() without blocks, a text before having had some", emptied().meanDepth(), 0.0);
        Check.exact("meanDepth(), the smallest", Check.ring(Edge.TEN_BLOCKS).meanDepth(), 0.0);
        Check.exact("meanDepth(), the greatest", Check.ring(LOSSY).meanDepth(), 9.0);
        Check.exact("meanDepth() of one", Check.ring(Edge.ONE_BLOCK).meanDepth(), 3.0);
        for (int count = 1; count <= 10; count++) {
            Check.exact("meanDepth() of one deep block of " + count,
                    Check.ring("railway" + ";block 1 0".repeat(count - 1) + ";block 1 7").meanDepth(), 7.0 / count);
        }
    }

    private static PeatRailway emptied() {
        PeatRailway x = Check.ring(LOSSY);
        Check.load(x, Edge.NO_BLOCKS);
        return x;
    }

    private static void waitShare() {
        Edge.sentence("Promise 42", "divided by the tick number times the number of trains as a float; 0.0f if that is 0.");
        Check.exact("waitShare() of nothing", Check.ring(Edge.NO_BLOCKS).waitShare(), 0.0f);
        Check.exact("waitShare() without trains", Check.ring("railway;block 1 0;ticks 9").waitShare(), 0.0f);
        Check.exact("waitShare() at tick 0", Check.ring(Edge.FIVE_TRAINS).waitShare(), 0.0f);
        Check.exact("waitShare() without waits", Check.ring("railway;block 9 0;train 0 1 1;ticks 8").waitShare(), 0.0f);
        Check.exact("waitShare(), the greatest", Check.ring("railway;block 1 0;train 0 1 1;ticks 9").waitShare(), 1.0f);
        PeatRailway one = Check.ring("railway;block 3 0;train 0 1 1");
        for (int tick = 1; tick <= 20; tick++) {
            one.advance(1);
            Check.exact("waitShare() at tick " + tick, one.waitShare(), (float) Math.max(0, tick - 2) / (float) tick);
        }
        PeatRailway two = Check.ring("railway;block 3 0;block 9 0;train 0 1 1;train 1 1 1;ticks 7");
        Check.exact("waitShare() of two", two.waitShare(), 5.0f / 14.0f);
        PeatRailway late = Check.ring("railway;block 1 0;block 1 0;block 1 0;train 0 1 1;train 1 1 1;train 2 1 1");
        for (int part = 0; part < 101; part++) {
            late.advance(99);
        }
        Check.exact("waitShare() of three at tick 9999", late.waitShare(), 1.0f);
    }
}
