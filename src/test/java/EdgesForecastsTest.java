/** Each boundary that promises 34 and 35 name: the forecasts. */
public final class EdgesForecastsTest {
    /** A train that goes from block 0 to block 9, 20 ticks in each, and waits there; round the ring with pull 0. */
    private static final String FAR = "railway" + ";block 20 0".repeat(10)
            + ";train 0 1 1;pull 1;pull 2;pull 3;pull 4;pull 5;pull 6;pull 7;pull 8;pull 9";
    /** As above, with the signal of block 0 clear from before the train was set there. */
    private static final String ROUND = "railway;block 20 0;pull 0" + FAR.substring("railway;block 20 0".length());

    public static void main(String[] args) {
        blockAfterTicks();
        blockAfterTrains();
        blockAfterBeyondTheLastTick();
        blockAfterOrder();
        nothingChanges();
        untilWait();
        untilWaitNever();
        untilWaitBeyondTheLastTick();
        Edge.end(34, 35);
    }

    private static void blockAfterTicks() {
        Edge.sentence("Promise 34", "`ticks`: 0 to 200");
        PeatRailway x = Check.ring(FAR);
        for (int ticks = 0; ticks <= 200; ticks++) {
            Check.equal("blockAfter(0, " + ticks + ")", x.blockAfter(0, ticks), Math.min(ticks / 20, 9));
        }
        PeatRailway y = Check.ring(ROUND);
        Check.equal("blockAfter(0, 199)", y.blockAfter(0, 199), 9);
        Check.equal("blockAfter(0, 200) round the ring", y.blockAfter(0, 200), 0);
        Edge.sentence("Promise 34", "Throws IllegalArgumentException if ticks is out of range");
        for (int ticks : new int[] {-1, 201, 9999, Integer.MIN_VALUE, Integer.MAX_VALUE}) {
            Edge.refused("blockAfter(0, " + ticks + ")", FAR, Check.ARGUMENT, z -> z.blockAfter(0, ticks));
            Edge.refused("blockAfter(4, " + ticks + ")", Edge.FIVE_TRAINS, Check.ARGUMENT, z -> z.blockAfter(4, ticks));
        }
    }

    private static void blockAfterTrains() {
        Edge.noSuchTrain(34, "blockAfter of no ticks", (x, train) -> x.blockAfter(train, 0));
        Edge.noSuchTrain(34, "blockAfter of 200 ticks", (x, train) -> x.blockAfter(train, 200));
        Edge.noSuchTrain(35, "ticksUntilWait", PeatRailway::ticksUntilWait);
    }

    private static void blockAfterBeyondTheLastTick() {
        Edge.sentence("Promise 34", "The tick number may exceed 9999 in the forecast.");
        PeatRailway x = Edge.busyAtLastTick("railway;block 20 0;block 20 0;train 0 1 1");
        x.pull(1);
        Check.equal("blockAfter(0, 0) at tick 9999", x.blockAfter(0, 0), 0);
        Check.equal("blockAfter(0, 1) at tick 9999", x.blockAfter(0, 1), 1);
        Check.equal("blockAfter(0, 200) at tick 9999", x.blockAfter(0, 200), 1);
        Check.equal("tick() after it", x.tick(), 9999);
        Check.equal("blockOf(0) after it", x.blockOf(0), 0);
    }

    private static void blockAfterOrder() {
        Edge.sentence("Promise 34", "If several exceptions apply to one call, the method throws the one that is listed first.");
        for (int ticks : new int[] {-1, 201}) {
            Edge.refused("blockAfter(1, " + ticks + ")", Edge.ONE_TRAIN, Check.INDEX, x -> x.blockAfter(1, ticks));
            Edge.refused("blockAfter(-1, " + ticks + ")", Edge.ONE_TRAIN, Check.INDEX, x -> x.blockAfter(-1, ticks));
            Edge.refused("blockAfter(0, " + ticks + ") of nothing", Edge.NO_BLOCKS, Check.INDEX, x -> x.blockAfter(0, ticks));
        }
    }

    private static void nothingChanges() {
        Edge.sentence("Promise 34", "forecasts: what would happen if only ticks passed; nothing changes.");
        String lossy = "railway;block 1 9;block 1 9;block 1 9;block 1 0;train 0 12 5;pull 1;pull 2;pull 3";
        Edge.altersNothing("blockAfter(0, 200)", () -> Edge.busy(lossy), x -> x.blockAfter(0, 200));
        Edge.altersNothing("blockAfter(0, 0)", () -> Edge.busy(lossy), x -> x.blockAfter(0, 0));
        Edge.sentence("Promise 35", "forecasts: what would happen if only ticks passed; nothing changes.");
        Edge.altersNothing("ticksUntilWait(0)", () -> Edge.busy(lossy), x -> x.ticksUntilWait(0));
        // one forecast does not go on where the one before ended
        PeatRailway x = Check.ring(FAR);
        Check.equal("blockAfter(0, 150)", x.blockAfter(0, 150), 7);
        Check.equal("blockAfter(0, 30)", x.blockAfter(0, 30), 1);
        Check.equal("ticksUntilWait(0)", x.ticksUntilWait(0), 200);
        Check.equal("ticksUntilWait(0) again", x.ticksUntilWait(0), 200);
        // other trains move in the forecast too: train 1 can follow only if train 0 goes on
        PeatRailway two = Check.ring("railway;block 1 0;block 1 0;block 1 0;pull 1;train 1 1 1;train 0 1 1;pull 2");
        Check.equal("blockAfter(1, 1) behind train 0", two.blockAfter(1, 1), 1);
    }

    private static void untilWait() {
        Edge.sentence("Promise 35", "Returns the number of ticks after which its waits have increased, 1 to 200");
        for (int length = 1; length <= 20; length++) {
            PeatRailway x = Check.ring("railway;block " + length + " 0;train 0 1 1");
            Check.equal("ticksUntilWait(0) in a block of " + length, x.ticksUntilWait(0), length);
        }
        PeatRailway x = Check.ring(FAR);
        for (int left = 200; left >= 1; left--) {
            Check.equal("ticksUntilWait(0)", x.ticksUntilWait(0), left);
            x.advance(1);
        }
        Check.equal("waitsOf(0)", x.waitsOf(0), 1);
        Check.equal("ticksUntilWait(0) while it waits", x.ticksUntilWait(0), 1);
        x.advance(99);
        Check.equal("ticksUntilWait(0) after many waits", x.ticksUntilWait(0), 1);
        // the waits of another train do not count
        PeatRailway two = Check.ring("railway;block 1 0;block 20 0;train 1 1 1;train 0 1 1");
        Check.equal("ticksUntilWait(0) beside one that waits", two.ticksUntilWait(0), 20);
        Check.equal("ticksUntilWait(1)", two.ticksUntilWait(1), 1);
    }

    private static void untilWaitNever() {
        Edge.sentence("Promise 35", "NONE if that does not happen within 200 ticks.");
        PeatRailway x = Check.ring(ROUND);
        for (int tick = 0; tick < 20; tick++) {
            Check.equal("ticksUntilWait(0) of " + (220 - tick), x.ticksUntilWait(0), PeatRailway.NONE);
            x.advance(1);
        }
        Check.equal("ticksUntilWait(0) of 200", x.ticksUntilWait(0), 200);
        x.undo();
        Check.equal("ticksUntilWait(0) of 201", x.ticksUntilWait(0), PeatRailway.NONE);
    }

    private static void untilWaitBeyondTheLastTick() {
        Edge.sentence("Promise 35", "The tick number may exceed 9999 in the forecast.");
        PeatRailway x = Edge.busyAtLastTick("railway;block 20 0;block 20 0;train 0 1 1");
        Check.equal("ticksUntilWait(0) at tick 9999", x.ticksUntilWait(0), 1);
        x.pull(1);
        Check.equal("ticksUntilWait(0) into block 1", x.ticksUntilWait(0), 21);
        Check.equal("tick() after it", x.tick(), 9999);
    }
}
