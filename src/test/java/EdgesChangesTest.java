/** Each boundary that promises 43 to 50 name: the changes. */
public final class EdgesChangesTest {
    /** Train 0 has left block 0, and a wagon of it lies there. */
    private static final String LOST = "railway;block 1 7;block 1 0;block 1 0;train 0 2 3;pull 1;ticks 1";

    public static void main(String[] args) {
        ticksToPass();
        lastTick();
        entered();
        pulledBlock();
        pulledBehindAnObstacle();
        clearAfterPull();
        dangerBlock();
        dangerAtDanger();
        repairedBlock();
        repairedWithTrain();
        removedBlock();
        addedTrain();
        addedOutOfRange();
        addedTooMany();
        addedOrder();
        topSpeedTrain();
        topSpeedOutOfRange();
        restoredSlot();
        restoredNothing();
        staysSaved();
        Edge.end(43, 50);
    }

    private static void ticksToPass() {
        Edge.sentence("Promise 43", "Throws IllegalArgumentException if ticks is out of range");
        for (int ticks : new int[] {0, 100, -1, 101, 9999, 10000, Integer.MIN_VALUE, Integer.MAX_VALUE}) {
            Edge.refused("advance(" + ticks + ")", Edge.ONE_TRAIN, Check.ARGUMENT, x -> x.advance(ticks));
            Edge.refused("advance(" + ticks + ") without blocks", Edge.NO_BLOCKS, Check.ARGUMENT, x -> x.advance(ticks));
        }
        for (int ticks = 1; ticks <= 99; ticks++) {
            PeatRailway x = Check.ring(Edge.NO_BLOCKS);
            Check.equal("advance(" + ticks + ")", x.advance(ticks), 0);
            Check.equal("tick()", x.tick(), ticks);
        }
    }

    private static void lastTick() {
        Edge.sentence("Promise 43", "Throws IllegalStateException if the tick number would exceed 9999");
        for (int ticks : new int[] {1, 2, 98, 99}) {
            Edge.refused("advance(" + ticks + ") at tick 9999", () -> Edge.busyAtLastTick(Edge.ONE_TRAIN), Check.STATE,
                    x -> x.advance(ticks));
        }
        for (int left = 1; left <= 99; left += 7) {
            int ticks = left;
            PeatRailway x = Check.ring(Edge.NO_BLOCKS);
            for (int part = 0; part < 100; part++) {
                x.advance(99);
            }
            if (left < 99) {
                x.advance(99 - left);
                Check.raises("advance(" + (left + 1) + ") with " + left + " left", Check.STATE, () -> x.advance(ticks + 1));
                Check.raises("advance(99) with " + left + " left", Check.STATE, () -> x.advance(99));
            }
            Check.equal("advance(" + left + ") to the last tick", x.advance(left), 0);
            Check.equal("tick()", x.tick(), 9999);
            Check.raises("advance(1)", Check.STATE, () -> x.advance(1));
            x.undo();
            Check.equal("tick() after undo", x.tick(), 9999 - left);
            Check.equal("advance(" + left + ") again", x.advance(left), 0);
        }
        Edge.sentence("Promise 43", "If several exceptions apply to one call, the method throws the one that is listed first.");
        for (int ticks : new int[] {0, -1, 100, Integer.MIN_VALUE, Integer.MAX_VALUE}) {
            Edge.refused("advance(" + ticks + ") at tick 9999", () -> Edge.busyAtLastTick(Edge.ONE_TRAIN), Check.ARGUMENT,
                    x -> x.advance(ticks));
        }
    }

    private static void entered() {
        Edge.sentence("Promise 43", "Returns how often a train entered a block.");
        Check.equal("advance(99) without blocks", Check.ring(Edge.NO_BLOCKS).advance(99), 0);
        Check.equal("advance(99) without trains", Check.ring(Edge.TEN_BLOCKS).advance(99), 0);
        Check.equal("advance(99) of a train that waits", Check.ring(Edge.ONE_TRAIN).advance(99), 0);
        String row = "railway" + ";block 1 0".repeat(10) + ";pull 1;pull 2;pull 3;pull 4;pull 5";
        Check.equal("advance(1) of five trains",
                Check.ring(row + ";train 4 1 1;train 3 1 1;train 2 1 1;train 1 1 1;train 0 1 1").advance(1), 5);
        PeatRailway x = Check.ring("railway;block 1 0;pull 0" + ";block 1 0".repeat(9)
                + ";train 0 1 1;pull 1;pull 2;pull 3;pull 4;pull 5;pull 6;pull 7;pull 8;pull 9");
        Check.equal("advance(99) once round the ring", x.advance(99), 10);
        Check.equal("advance(1) then", x.advance(1), 0);
    }

    private static void pulledBlock() {
        Edge.sentence("Promise 44", "Throws IndexOutOfBoundsException if there is no such block");
        Edge.noSuchBlock("pull", PeatRailway::pull);
        Edge.refused("pull(0) of one, whose block 1 is not there", "railway;block 1 0 bend 1;train 0 1 1", Check.STATE, x -> x.pull(0));
    }

    private static void pulledBehindAnObstacle() {
        Edge.sentence("Promise 44", "Throws IllegalStateException if there is an obstacle");
        Edge.refused("pull(0) with a train", "railway;block 5 0;train 0 1 1", Check.STATE, x -> x.pull(0));
        Edge.refused("pull(0) with a lost wagon", () -> lost(LOST), Check.STATE, x -> x.pull(0));
        Edge.refused("pull(0) when it is clear", "railway;block 5 0;pull 0", Check.STATE, x -> x.pull(0));
        Edge.refused("pull(0) of a bend before a train", "railway;block 5 0 bend 5;block 5 0;train 1 1 1", Check.STATE, x -> x.pull(0));
        Edge.refused("pull(9) of a bend before block 0", Edge.TEN_BLOCKS + " bend 1;train 0 1 1", Check.STATE, x -> x.pull(9));
        Edge.refused("pull(2) of a bend before a lost wagon", () -> lost(LOST.replace("block 1 0;train", "block 1 0 bend 2;train")),
                Check.STATE, x -> x.pull(2));
        Check.equal("pull(0) of no bend before a train", Check.ring("railway;block 5 0;block 5 0;train 1 1 1").pull(0), 1);
        PeatRailway x = lost(LOST);
        x.removeWagons(0);
        Check.equal("pull(0), the lost wagon being taken away", x.pull(0), 1);
    }

    private static PeatRailway lost(String text) {
        PeatRailway x = Edge.busy(text);
        Check.equal("lostIn(0)", x.lostIn(0), 1);
        return x;
    }

    private static void clearAfterPull() {
        Edge.sentence("Promise 44", "Returns the number of clear signals afterwards.");
        PeatRailway x = Check.ring(Edge.TEN_BLOCKS);
        for (int count = 1; count <= 10; count++) {
            Check.equal("pull as number " + count, x.pull(10 - count), count);
        }
        Check.raises("pull(0) with all clear", Check.STATE, () -> x.pull(0));
        Check.raises("pull(9) with all clear", Check.STATE, () -> x.pull(9));
        Check.equal("pull(0) of one", Check.ring(Edge.ONE_BLOCK).pull(0), 1);
        Check.equal("pull(0) of one bend", Check.ring("railway;block 5 0 bend 1").pull(0), 1);
        // a clear signal before a train counts too
        Check.equal("pull(1)", Check.ring("railway;block 5 0;block 5 0;pull 0;train 0 1 1").pull(1), 2);
        // a text before does not count
        PeatRailway smaller = Check.ring(Edge.TEN_BLOCKS + ";pull 0;pull 5;pull 9");
        Check.load(smaller, Edge.ONE_BLOCK);
        Check.equal("pull(0) after a smaller text", smaller.pull(0), 1);
    }

    private static void dangerBlock() {
        Edge.sentence("Promise 45", "Throws IndexOutOfBoundsException if there is no such block");
        Edge.noSuchBlock("setDanger", PeatRailway::setDanger);
        Edge.sentence("Promise 45", "Returns the number of clear signals afterwards.");
        PeatRailway x = Check.ring(Edge.TEN_BLOCKS);
        for (int block = 0; block < 10; block++) {
            x.pull(block);
        }
        for (int count = 9; count >= 0; count--) {
            Check.equal("setDanger(" + count + ")", x.setDanger(count), count);
        }
        Check.equal("setDanger(0) with a train", Check.ring("railway;block 1 0;pull 0;train 0 1 1").setDanger(0), 0);
    }

    private static void dangerAtDanger() {
        Edge.sentence("Promise 45", "Throws IllegalStateException if the signal is at danger");
        Edge.refused("setDanger(0)", Edge.ONE_BLOCK, Check.STATE, x -> x.setDanger(0));
        Edge.refused("setDanger(9)", Edge.TEN_BLOCKS + ";pull 8;pull 0", Check.STATE, x -> x.setDanger(9));
        Edge.refused("setDanger(1), a train having entered", LOST, Check.STATE, x -> x.setDanger(1));
        PeatRailway x = Check.ring("railway;block 1 0;pull 0");
        x.setDanger(0);
        Check.raises("setDanger(0) again", Check.STATE, () -> x.setDanger(0));
        x.undo();
        Check.equal("setDanger(0) after undo", x.setDanger(0), 0);
    }

    private static void repairedBlock() {
        Edge.sentence("Promise 46", "Throws IndexOutOfBoundsException if there is no such block");
        Edge.noSuchBlock("repair", PeatRailway::repair);
        Edge.sentence("Promise 46", "Returns the depth before.");
        for (int depth = 0; depth <= 9; depth++) {
            PeatRailway x = Check.ring("railway;block 1 5;block 1 " + depth + ";block 1 6");
            Check.equal("repair(1)", x.repair(1), depth);
            Check.equal("depthOf(1)", x.depthOf(1), 0);
            Check.equal("repair(1) again", x.repair(1), 0);
            Check.equal("depthOf(0)", x.depthOf(0), 5);
            Check.equal("depthOf(2)", x.depthOf(2), 6);
        }
        Check.equal("repair(9)", Check.ring("railway" + ";block 1 7".repeat(10)).repair(9), 7);
    }

    private static void repairedWithTrain() {
        Edge.sentence("Promise 46", "Throws IllegalStateException if there is a train in the block");
        Edge.refused("repair(0)", "railway;block 1 5;train 0 1 1", Check.STATE, x -> x.repair(0));
        Edge.refused("repair(9)", Edge.TEN_BLOCKS + ";train 9 1 1", Check.STATE, x -> x.repair(9));
        Edge.refused("repair(1), the train having come", LOST, Check.STATE, x -> x.repair(1));
        PeatRailway x = Check.ring(LOST);
        Check.equal("repair(0) with a lost wagon alone", x.repair(0), 8);
        Check.equal("lostIn(0) after it", x.lostIn(0), 1);
        Check.equal("repair(0) behind a clear signal", Check.ring("railway;block 1 4;pull 0").repair(0), 4);
    }

    private static void removedBlock() {
        Edge.sentence("Promise 47", "Throws IndexOutOfBoundsException if there is no such block");
        Edge.noSuchBlock("removeWagons", PeatRailway::removeWagons);
        Edge.sentence("Promise 47", "Returns the number of these wagons.");
        PeatRailway x = Check.ring(LOST);
        Check.equal("removeWagons(1) with a train", x.removeWagons(1), 0);
        Check.equal("removeWagons(2) of an empty block", x.removeWagons(2), 0);
        Check.equal("lostIn(0)", x.lostIn(0), 1);
        Check.equal("removeWagons(0)", x.removeWagons(0), 1);
        Check.equal("removeWagons(0) again", x.removeWagons(0), 0);
        Check.equal("wagonsOf(0), none being given back", x.wagonsOf(0), 1);
        Check.equal("undo()", x.undo(), 3);
        Check.equal("undo() of the taking", x.undo(), 2);
        Check.equal("lostIn(0) again", x.lostIn(0), 1);
        Check.equal("removeWagons(9) of ten", Check.ring(Edge.TEN_BLOCKS).removeWagons(9), 0);
    }

    private static void addedTrain() {
        Edge.sentence("Promise 48", "Throws IndexOutOfBoundsException if there is no such train");
        Edge.noSuchTrain("addWagons", (x, train) -> x.addWagons(train, 1));
        PeatRailway x = Check.ring(Edge.FIVE_TRAINS);
        Check.equal("addWagons(4, 1), the last train", x.addWagons(4, 1), 6);
        Check.equal("addWagons(0, 1), the first train", x.addWagons(0, 1), 2);
        Check.same("the wagons", x.wagonsOf(0) + " " + x.wagonsOf(1) + " " + x.wagonsOf(2) + " " + x.wagonsOf(3)
                + " " + x.wagonsOf(4), "2 2 3 4 6");
    }

    private static void addedOutOfRange() {
        Edge.sentence("Promise 48", "Throws IllegalArgumentException if wagons is out of range");
        for (int wagons : new int[] {0, -1, 12, 13, Integer.MIN_VALUE, Integer.MAX_VALUE}) {
            Edge.refused("addWagons(0, " + wagons + ")", "railway;block 1 0;train 0 1 1", Check.ARGUMENT, x -> x.addWagons(0, wagons));
        }
        for (int wagons = 1; wagons <= 11; wagons++) {
            PeatRailway x = Check.ring("railway;block 1 0;train 0 1 1");
            Check.equal("addWagons(0, " + wagons + ") to one", x.addWagons(0, wagons), wagons + 1);
            Check.equal("wagonsOf(0)", x.wagonsOf(0), wagons + 1);
        }
    }

    private static void addedTooMany() {
        Edge.sentence("Promise 48", "Throws IllegalStateException if it would have more than 12 wagons");
        for (int has = 1; has <= 12; has++) {
            String text = "railway;block 1 0;train 0 " + has + " 1";
            for (int wagons = 1; wagons <= 11; wagons++) {
                int more = wagons;
                if (has + wagons > 12) {
                    PeatRailway x = Check.ring(text);
                    Check.raises("addWagons(0, " + wagons + ") to " + has, Check.STATE, () -> x.addWagons(0, more));
                    Check.equal("wagonsOf(0) after it", x.wagonsOf(0), has);
                } else {
                    Check.equal("addWagons(0, " + wagons + ") to " + has, Check.ring(text).addWagons(0, wagons), has + wagons);
                }
            }
        }
        Edge.refused("addWagons(0, 1) to 12", "railway;block 1 0;train 0 12 1", Check.STATE, x -> x.addWagons(0, 1));
        Edge.refused("addWagons(0, 11) to 2", "railway;block 1 0;train 0 2 1", Check.STATE, x -> x.addWagons(0, 11));
    }

    private static void addedOrder() {
        Edge.sentence("Promise 48", "If several exceptions apply to one call, the method throws the one that is listed first.");
        String full = "railway;block 1 0;train 0 12 1";
        for (int wagons : new int[] {0, -1, 12, Integer.MIN_VALUE, Integer.MAX_VALUE}) {
            Edge.refused("addWagons(1, " + wagons + ")", full, Check.INDEX, x -> x.addWagons(1, wagons));
            Edge.refused("addWagons(-1, " + wagons + ")", full, Check.INDEX, x -> x.addWagons(-1, wagons));
            Edge.refused("addWagons(0, " + wagons + ") to 12", full, Check.ARGUMENT, x -> x.addWagons(0, wagons));
        }
    }

    private static void topSpeedTrain() {
        Edge.sentence("Promise 49", "Throws IndexOutOfBoundsException if there is no such train");
        Edge.noSuchTrain("setTopSpeed", (x, train) -> x.setTopSpeed(train, 1));
        Edge.noSuchTrain("setTopSpeed to 0", (x, train) -> x.setTopSpeed(train, 0));
        Edge.noSuchTrain("setTopSpeed to 6", (x, train) -> x.setTopSpeed(train, 6));
        PeatRailway x = Check.ring(Edge.FIVE_TRAINS);
        Check.equal("setTopSpeed(4, 1), the last train", x.setTopSpeed(4, 1), 5);
        Check.equal("setTopSpeed(0, 5), the first train", x.setTopSpeed(0, 5), 1);
        Check.equal("topSpeedOf(1)", x.topSpeedOf(1), 2);
    }

    private static void topSpeedOutOfRange() {
        Edge.sentence("Promise 49", "Throws IllegalArgumentException if speed is out of range");
        for (int speed : new int[] {0, -1, 6, Integer.MIN_VALUE, Integer.MAX_VALUE}) {
            Edge.refused("setTopSpeed(0, " + speed + ")", Edge.ONE_TRAIN, Check.ARGUMENT, x -> x.setTopSpeed(0, speed));
        }
        Edge.sentence("Promise 49", "Returns the previous top speed.");
        PeatRailway x = Check.ring("railway;block 1 0 bend 1;train 0 1 1");
        for (int speed = 1; speed <= 5; speed++) {
            Check.equal("setTopSpeed(0, " + speed + ")", x.setTopSpeed(0, speed), Math.max(1, speed - 1));
            Check.equal("topSpeedOf(0)", x.topSpeedOf(0), speed);
            Check.equal("setTopSpeed to the same", x.setTopSpeed(0, speed), speed);
        }
    }

    private static void restoredSlot() {
        Edge.sentence("Promise 50", "Throws IndexOutOfBoundsException if slot is neither 0 nor 1");
        for (int slot : new int[] {-1, 2, 3, Integer.MIN_VALUE, Integer.MAX_VALUE}) {
            Edge.refused("restore(" + slot + ")", Edge.ONE_TRAIN, Check.INDEX, x -> x.restore(slot));
            Edge.refused("restore(" + slot + "), nothing being saved", PeatRailway::new, Check.INDEX, x -> x.restore(slot));
        }
    }

    private static void restoredNothing() {
        Edge.sentence("Promise 50", "Throws IllegalStateException if nothing is saved in the slot");
        for (int slot = 0; slot < 2; slot++) {
            int which = slot;
            Edge.refused("restore(" + slot + ") of a new object", PeatRailway::new, Check.STATE, x -> x.restore(which));
            Edge.refused("restore(" + slot + "), the other being full", () -> changed(1 - which), Check.STATE, x -> x.restore(which));
            PeatRailway x = changed(slot);
            Check.equal("restore(" + slot + "), the other being empty", x.restore(slot), 3);
            // load discards what was saved
            Check.load(x, Edge.ONE_TRAIN);
            Check.raises("restore(" + slot + ") after load", Check.STATE, () -> x.restore(which));
        }
    }

    /** A new object with one slot saved and some changes since. */
    private static PeatRailway changed(int slot) {
        PeatRailway x = new PeatRailway();
        x.save(slot);
        x.advance(5);
        x.pull(2);
        return x;
    }

    private static void staysSaved() {
        Edge.sentence("Promise 50", "Restores a saved state. The state stays saved.");
        for (int slot = 0; slot < 2; slot++) {
            PeatRailway x = changed(slot);
            for (int times = 1; times <= 12; times++) {
                Check.equal("restore(" + slot + ") as number " + times, x.restore(slot), 3);
                Check.equal("wagonsOf(0)", x.wagonsOf(0), 5);
                x.advance(times);
                x.addWagons(0, 1);
            }
            x.undo();
            Check.equal("restore(" + slot + ") after undo", x.restore(slot), 3);
            Check.same("the state", Check.lookAtState(x), Check.lookAtState(new PeatRailway()));
        }
        PeatRailway two = new PeatRailway();
        two.save(0);
        two.advance(6);
        two.save(1);
        two.advance(60);
        Check.equal("restore(1)", two.restore(1), 9);
        Check.equal("restore(0)", two.restore(0), 3);
        Check.equal("restore(1) again", two.restore(1), 9);
        Edge.sentence("Promise 50", "Returns the tick number of the restored state.");
        PeatRailway late = Edge.busyAtLastTick(Edge.ONE_TRAIN);
        late.save(1);
        Check.equal("restore(0), the smallest", late.restore(0), 0);
        Check.equal("restore(1), the greatest", late.restore(1), 9999);
    }
}
