/** Promises 43 to 52: the changes, undo and the saved states. */
public final class ChangesTest {
    private static final int[] FAR = {-1, 4, 10, Integer.MIN_VALUE, Integer.MAX_VALUE};

    public static void main(String[] args) {
        advance();
        pull();
        setDanger();
        repair();
        removeWagons();
        addWagons();
        setTopSpeed();
        saveAndRestore();
        eachChangeIsRecorded();
        refusedChangesAreNotRecorded();
        lastTen();
        whatUndoRestores();
        Check.end();
    }

    private static void advance() {
        PeatRailway x = Check.ring("railway;block 1 0;block 1 0;block 1 0;block 1 0;train 1 1 1;train 0 1 1;pull 2;pull 3");
        Check.equal("advance(1)", x.advance(1), 1);
        Check.equal("advance(2)", x.advance(2), 1);
        Check.equal("advance(99)", x.advance(99), 0);
        Check.equal("tick()", x.tick(), 102);
        Check.raises("advance(0)", Check.ARGUMENT, () -> x.advance(0));
        Check.raises("advance(100)", Check.ARGUMENT, () -> x.advance(100));
        Check.raises("advance(-1)", Check.ARGUMENT, () -> x.advance(-1));
        Check.raises("advance(the least int)", Check.ARGUMENT, () -> x.advance(Integer.MIN_VALUE));
        Check.raises("advance(the greatest int)", Check.ARGUMENT, () -> x.advance(Integer.MAX_VALUE));
        Check.equal("none enters within a block", Check.ring("railway;block 9 0;block 1 0;train 0 1 1;pull 1").advance(8), 0);
        Check.equal("two enter in one call", Check.ring("railway;block 1 0;block 1 0;block 1 0;pull 1;"
                + "train 1 1 1;train 0 1 1;pull 2").advance(5), 2);
        PeatRailway y = Check.ring("railway;ticks 99;ticks 80");
        for (int part = 0; part < 99; part++) {
            y.advance(99);
        }
        Check.equal("tick() near the end", y.tick(), 9980);
        Check.raises("advance(20) beyond 9999", Check.STATE, () -> y.advance(20));
        Check.raises("advance(99) beyond 9999", Check.STATE, () -> y.advance(99));
        Check.raises("advance(100), the argument first", Check.ARGUMENT, () -> y.advance(100));
        Check.equal("advance(19) to 9999", y.advance(19), 0);
        Check.equal("tick() at the end", y.tick(), 9999);
        Check.raises("advance(1) at 9999", Check.STATE, () -> y.advance(1));
        Check.raises("advance(0) at 9999", Check.ARGUMENT, () -> y.advance(0));
        y.undo();
        Check.equal("advance(1) after undo", y.advance(1), 0);
    }

    private static void pull() {
        PeatRailway x = Check.ring("railway;block 5 9;block 5 0;block 5 0 bend 2;block 5 0;train 0 5 5;pull 1;ticks 1;train 3 1 1");
        for (int block : FAR) {
            Check.raises("pull(" + block + ")", Check.INDEX, () -> x.pull(block));
        }
        Check.raises("pull(0) behind a lost wagon", Check.STATE, () -> x.pull(0));
        Check.raises("pull(1) with a train", Check.STATE, () -> x.pull(1));
        Check.raises("pull(2) of a bend", Check.STATE, () -> x.pull(2));
        x.removeWagons(0);
        Check.equal("pull(0)", x.pull(0), 1);
        Check.equal("isClear(0)", x.isClear(0), true);
        Check.raises("pull(0) again", Check.STATE, () -> x.pull(0));
        PeatRailway y = Check.ring("railway;block 5 0;block 5 0 bend 2;block 5 0");
        Check.equal("pull(1)", y.pull(1), 1);
        Check.equal("pull(0)", y.pull(0), 2);
        Check.equal("pull(2)", y.pull(2), 3);
        PeatRailway ten = Check.ring("railway" + ";block 5 0".repeat(10));
        for (int block = 0; block < 10; block++) {
            Check.equal("pull(" + block + ") of ten", ten.pull(block), block + 1);
        }
        PeatRailway none = Check.ring("railway");
        Check.raises("pull(0) without blocks", Check.INDEX, () -> none.pull(0));
    }

    private static void setDanger() {
        PeatRailway x = Check.ring("railway;block 5 0;block 5 0;block 5 0;block 5 0;pull 0;pull 1;pull 3;train 3 1 1");
        for (int block : FAR) {
            Check.raises("setDanger(" + block + ")", Check.INDEX, () -> x.setDanger(block));
        }
        Check.raises("setDanger(2)", Check.STATE, () -> x.setDanger(2));
        Check.equal("setDanger(1)", x.setDanger(1), 2);
        Check.equal("isClear(1)", x.isClear(1), false);
        Check.equal("isClear(0)", x.isClear(0), true);
        Check.equal("setDanger(3) with a train", x.setDanger(3), 1);
        Check.equal("setDanger(0)", x.setDanger(0), 0);
        Check.raises("setDanger(0) again", Check.STATE, () -> x.setDanger(0));
    }

    private static void repair() {
        PeatRailway x = Check.ring("railway;block 5 9;block 5 3;block 5 0;block 5 7;train 0 5 5;pull 1;ticks 1");
        for (int block : FAR) {
            Check.raises("repair(" + block + ")", Check.INDEX, () -> x.repair(block));
        }
        Check.raises("repair(1) with a train", Check.STATE, () -> x.repair(1));
        Check.equal("repair(0) with a lost wagon", x.repair(0), 9);
        Check.equal("depthOf(0)", x.depthOf(0), 0);
        Check.equal("lostIn(0)", x.lostIn(0), 1);
        Check.equal("repair(3)", x.repair(3), 7);
        Check.equal("repair(3) again", x.repair(3), 0);
        Check.equal("depthOf(1)", x.depthOf(1), 3);
    }

    private static void removeWagons() {
        PeatRailway x = Check.ring("railway;block 5 9;block 5 9;block 5 0;block 5 0;train 0 5 5;pull 1;ticks 1;pull 2;ticks 1");
        for (int block : FAR) {
            Check.raises("removeWagons(" + block + ")", Check.INDEX, () -> x.removeWagons(block));
        }
        Check.equal("removeWagons(1)", x.removeWagons(1), 1);
        Check.equal("lostIn(1)", x.lostIn(1), 0);
        Check.equal("lostIn(0)", x.lostIn(0), 1);
        Check.equal("removeWagons(1) again", x.removeWagons(1), 0);
        Check.equal("removeWagons(2) with a train", x.removeWagons(2), 0);
        Check.equal("removeWagons(0)", x.removeWagons(0), 1);
        Check.equal("removedWagons()", x.removedWagons(), 2);
    }

    private static void addWagons() {
        PeatRailway x = Check.ring("railway;block 5 0;block 5 0;train 0 1 5;train 1 6 5");
        for (int train : new int[] {-1, 2, 5, Integer.MIN_VALUE, Integer.MAX_VALUE}) {
            Check.raises("addWagons(" + train + ", 1)", Check.INDEX, () -> x.addWagons(train, 1));
            Check.raises("addWagons(" + train + ", 0)", Check.INDEX, () -> x.addWagons(train, 0));
        }
        for (int wagons : new int[] {0, 12, -1, 13, Integer.MIN_VALUE, Integer.MAX_VALUE}) {
            Check.raises("addWagons(0, " + wagons + ")", Check.ARGUMENT, () -> x.addWagons(0, wagons));
            Check.raises("addWagons(1, " + wagons + ")", Check.ARGUMENT, () -> x.addWagons(1, wagons));
        }
        Check.raises("addWagons(1, 7)", Check.STATE, () -> x.addWagons(1, 7));
        Check.raises("addWagons(1, 11)", Check.STATE, () -> x.addWagons(1, 11));
        Check.equal("addWagons(1, 5)", x.addWagons(1, 5), 11);
        Check.equal("addWagons(1, 1)", x.addWagons(1, 1), 12);
        Check.raises("addWagons(1, 1) to a full train", Check.STATE, () -> x.addWagons(1, 1));
        Check.equal("addWagons(0, 11)", x.addWagons(0, 11), 12);
        Check.equal("wagonsOf(0)", x.wagonsOf(0), 12);
    }

    private static void setTopSpeed() {
        PeatRailway x = Check.ring("railway;block 5 0 bend 2;block 5 0;train 0 1 4;train 1 6 5");
        for (int train : new int[] {-1, 2, 5, Integer.MIN_VALUE, Integer.MAX_VALUE}) {
            Check.raises("setTopSpeed(" + train + ", 1)", Check.INDEX, () -> x.setTopSpeed(train, 1));
            Check.raises("setTopSpeed(" + train + ", 6)", Check.INDEX, () -> x.setTopSpeed(train, 6));
        }
        for (int speed : new int[] {0, 6, -1, Integer.MIN_VALUE, Integer.MAX_VALUE}) {
            Check.raises("setTopSpeed(0, " + speed + ")", Check.ARGUMENT, () -> x.setTopSpeed(0, speed));
        }
        Check.equal("setTopSpeed(0, 5)", x.setTopSpeed(0, 5), 4);
        Check.equal("setTopSpeed(0, 1)", x.setTopSpeed(0, 1), 5);
        Check.equal("topSpeedOf(0)", x.topSpeedOf(0), 1);
        Check.equal("speedOf(0)", x.speedOf(0), 1);
        Check.equal("topSpeedOf(1)", x.topSpeedOf(1), 5);
        Check.equal("setTopSpeed(0, 1) again", x.setTopSpeed(0, 1), 1);
    }

    private static void saveAndRestore() {
        PeatRailway x = new PeatRailway();
        for (int slot : new int[] {-1, 2, 3, Integer.MIN_VALUE, Integer.MAX_VALUE}) {
            Check.raises("save(" + slot + ")", Check.INDEX, () -> x.save(slot));
            Check.raises("restore(" + slot + ")", Check.INDEX, () -> x.restore(slot));
        }
        Check.raises("restore(0) of nothing", Check.STATE, () -> x.restore(0));
        Check.raises("restore(1) of nothing", Check.STATE, () -> x.restore(1));
        Check.equal("save(1)", x.save(1), 3);
        Check.raises("restore(0), only slot 1 being full", Check.STATE, () -> x.restore(0));
        Check.raises("undo() after save", Check.STATE, x::undo);
        String first = Check.lookAtState(x);
        x.pull(2);
        x.advance(7);
        x.setTopSpeed(1, 1);
        String second = Check.lookAtState(x);
        Check.equal("save(0)", x.save(0), 10);
        Check.equal("tick() after save", x.tick(), 10);
        Check.equal("restore(1)", x.restore(1), 3);
        Check.same("the first state", Check.lookAtState(x), first);
        x.advance(2);
        Check.equal("restore(0)", x.restore(0), 10);
        Check.same("the second state", Check.lookAtState(x), second);
        Check.equal("restore(1) once more", x.restore(1), 3);
        Check.equal("tick() in the first state once more", x.tick(), 3);
        Check.equal("undo() of restore", x.undo(), 6);
        Check.equal("tick() before restore", x.tick(), 10);
        // what is saved outlives undo and is replaced by the next save alone
        x.advance(1);
        Check.equal("save(1) in the full slot", x.save(1), 11);
        x.undo();
        Check.equal("restore(1) after undo", x.restore(1), 11);
        x.repair(0);
        Check.equal("restore(1) after a change", x.restore(1), 11);
        Check.equal("depthOf(0)", x.depthOf(0), 4);
    }

    private static void eachChangeIsRecorded() {
        PeatRailway x = Check.ring("railway;block 5 3;block 5 0;block 5 0;train 2 5 5");
        x.save(0);
        x.advance(1);
        x.pull(0);
        x.setDanger(0);
        x.repair(0);
        x.repair(0);
        x.removeWagons(1);
        x.addWagons(0, 1);
        x.setTopSpeed(0, 5);
        x.restore(0);
        for (int left = 8; left >= 0; left--) {
            Check.equal("undo()", x.undo(), left);
        }
        Check.raises("undo() of none", Check.STATE, x::undo);
        Check.equal("tick()", x.tick(), 0);
        Check.equal("undo() is not recorded: advance", x.advance(1), 0);
        Check.equal("undo()", x.undo(), 0);
    }

    private static void refusedChangesAreNotRecorded() {
        PeatRailway x = new PeatRailway();
        x.setTopSpeed(0, 2);
        Check.raises("advance(0)", Check.ARGUMENT, () -> x.advance(0));
        Check.raises("pull(9)", Check.INDEX, () -> x.pull(9));
        Check.raises("pull(1)", Check.STATE, () -> x.pull(1));
        Check.raises("setDanger(9)", Check.INDEX, () -> x.setDanger(9));
        Check.raises("setDanger(0)", Check.STATE, () -> x.setDanger(0));
        Check.raises("repair(9)", Check.INDEX, () -> x.repair(9));
        Check.raises("repair(1)", Check.STATE, () -> x.repair(1));
        Check.raises("removeWagons(9)", Check.INDEX, () -> x.removeWagons(9));
        Check.raises("addWagons(9, 1)", Check.INDEX, () -> x.addWagons(9, 1));
        Check.raises("addWagons(0, 0)", Check.ARGUMENT, () -> x.addWagons(0, 0));
        Check.raises("addWagons(0, 11)", Check.STATE, () -> x.addWagons(0, 11));
        Check.raises("setTopSpeed(9, 1)", Check.INDEX, () -> x.setTopSpeed(9, 1));
        Check.raises("setTopSpeed(0, 0)", Check.ARGUMENT, () -> x.setTopSpeed(0, 0));
        Check.raises("restore(2)", Check.INDEX, () -> x.restore(2));
        Check.raises("restore(0)", Check.STATE, () -> x.restore(0));
        x.save(0);
        x.writeRing();
        x.writeTrain(0);
        x.append(0, 0, 0, 0, 0);
        x.blockAfter(0, 10);
        x.ticksUntilWait(0);
        Check.equal("undo() of the one change", x.undo(), 0);
        Check.equal("topSpeedOf(0)", x.topSpeedOf(0), 4);
        Check.raises("undo()", Check.STATE, x::undo);
    }

    private static void lastTen() {
        for (int changes = 1; changes <= 25; changes++) {
            PeatRailway x = Check.ring("railway");
            for (int change = 0; change < changes; change++) {
                x.advance(1);
            }
            int most = Math.min(changes, 10);
            for (int undone = 1; undone <= most; undone++) {
                Check.equal("undo() " + undone + " of " + changes, x.undo(), most - undone);
                Check.equal("tick() after it", x.tick(), changes - undone);
            }
            Check.raises("undo() beyond the last of " + changes, Check.STATE, x::undo);
        }
        PeatRailway x = Check.ring("railway");
        for (int change = 0; change < 13; change++) {
            x.advance(1);
        }
        x.undo();
        x.undo();
        x.undo();
        x.advance(50);
        Check.equal("undo() of the later change", x.undo(), 7);
        Check.equal("tick()", x.tick(), 10);
        Check.equal("undo() of the one before", x.undo(), 6);
        Check.equal("tick()", x.tick(), 9);
    }

    private static void whatUndoRestores() {
        PeatRailway x = Check.ring("railway;block 5 9;block 5 8;block 5 0 bend 4;block 5 0;train 0 9 5;pull 1;pull 2");
        String before = Check.lookAtState(x);
        x.advance(30);
        x.removeWagons(0);
        x.pull(0);
        x.setTopSpeed(0, 1);
        x.addWagons(0, 2);
        x.repair(1);
        x.save(1);
        String saved = Check.lookAtState(x);
        Check.append(x, "ship");
        Check.raises("load", Check.ARGUMENT, () -> x.load(4));
        Check.append(x, "railway");
        x.writeTrain(0);
        for (int left = 5; left >= 0; left--) {
            Check.equal("undo()", x.undo(), left);
        }
        Check.same("the state", Check.lookAtState(x), before);
        Check.equal("errorKind() stays", x.errorKind(), 1);
        Check.equal("errorOffset() stays", x.errorOffset(), 0);
        Check.same("the output stays", Check.output(x), "2:5/5 9w");
        Check.equal("the slot stays", x.restore(1), 30);
        Check.same("the saved state", Check.lookAtState(x), saved);
        Check.equal("the input stays", x.load(20), 0);
    }
}
