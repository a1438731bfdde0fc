import java.util.function.Consumer;

/** Each boundary that promises 51 and 52 and the part "History" name. */
public final class EdgesHistoryTest {
    /** Train 0 has left block 0, and a wagon of it lies there; slot 0 holds that state. */
    private static final String LOST = "railway;block 1 7;block 1 0;block 1 0;train 0 2 3;pull 1;ticks 1";

    public static void main(String[] args) {
        nothingToUndo();
        lastTen();
        afterUndo();
        changesLeft();
        everyChangeIsRecorded();
        whatAltersNothingIsRecorded();
        whatIsNoChange();
        refusedIsNotRecorded();
        stateBefore();
        notUndone();
        slots();
        saveIsNoChange();
        saveReplaces();
        savedTick();
        Edge.end(51, 52);
    }

    private static PeatRailway lost() {
        PeatRailway x = Check.ring(LOST);
        x.save(0);
        return x;
    }

    private static void nothingToUndo() {
        Edge.sentence("Promise 51", "Throws IllegalStateException if there is no change to undo");
        Edge.refused("undo() of a new object", PeatRailway::new, Check.STATE, PeatRailway::undo);
        Edge.refused("undo() when all is undone", () -> undone(Edge.busy(LOST), 10), Check.STATE, PeatRailway::undo);
        Edge.refused("undo() after load", () -> loaded(Edge.busy(LOST)), Check.STATE, PeatRailway::undo);
        PeatRailway x = new PeatRailway();
        x.advance(1);
        Check.equal("undo() of the only change", x.undo(), 0);
        Check.raises("undo()", Check.STATE, x::undo);
        Check.raises("undo() again", Check.STATE, x::undo);
        x.advance(2);
        Check.equal("undo() of a change since", x.undo(), 0);
        Check.equal("tick()", x.tick(), 3);
    }

    private static PeatRailway undone(PeatRailway x, int times) {
        for (int time = 0; time < times; time++) {
            x.undo();
        }
        return x;
    }

    private static PeatRailway loaded(PeatRailway x) {
        x.load(20);
        return x;
    }

    private static void lastTen() {
        Edge.sentence("History", "The last 10 recorded changes can be undone.");
        for (int changes = 0; changes <= 45; changes++) {
            PeatRailway x = Check.ring(Edge.NO_BLOCKS);
            for (int change = 1; change <= changes; change++) {
                x.advance(change);
            }
            int most = Math.min(changes, 10);
            int tick = changes * (changes + 1) / 2;
            for (int undone = 1; undone <= most; undone++) {
                Check.equal("undo() " + undone + " of " + changes, x.undo(), most - undone);
                tick -= changes + 1 - undone;
                Check.equal("tick() after undo " + undone + " of " + changes, x.tick(), tick);
            }
            Check.raises("undo() beyond the last of " + changes, Check.STATE, x::undo);
            Check.equal("tick() after it", x.tick(), tick);
        }
    }

    private static void afterUndo() {
        Edge.sentence("Promise 51", "Undoes the last recorded change that has not been undone.");
        // changes and undos in turn, so that the place of the last change comes round
        PeatRailway x = Check.ring(Edge.NO_BLOCKS);
        for (int round = 1; round <= 20; round++) {
            x.advance(1);
            x.advance(20);
            x.undo();
            Check.equal("tick() after " + round, x.tick(), round);
        }
        // whether an undone change still counts among the last ten is left open here: five can be undone either way
        for (int tick = 19; tick >= 15; tick--) {
            x.undo();
            Check.equal("tick() after undo in a row", x.tick(), tick);
        }
        // what was undone is not undone once more
        PeatRailway y = Check.ring(Edge.NO_BLOCKS);
        for (int change = 1; change <= 9; change++) {
            y.advance(change);
        }
        for (int time = 1; time <= 4; time++) {
            y.undo();
        }
        Check.equal("tick() after five changes", y.tick(), 15);
        y.advance(50);
        Check.equal("undo() of the new change", y.undo(), 5);
        Check.equal("tick()", y.tick(), 15);
        Check.equal("undo() of the fifth", y.undo(), 4);
        Check.equal("tick()", y.tick(), 10);
    }

    private static void changesLeft() {
        Edge.sentence("Promise 51", "Returns the number of changes that can still be undone.");
        PeatRailway x = Check.ring(Edge.NO_BLOCKS);
        x.advance(1);
        Check.equal("undo() of one", x.undo(), 0);
        for (int change = 1; change <= 10; change++) {
            x.advance(1);
        }
        Check.equal("undo() of ten", x.undo(), 9);
        PeatRailway y = Check.ring(Edge.NO_BLOCKS);
        for (int change = 1; change <= 11; change++) {
            y.advance(1);
        }
        Check.equal("undo() of eleven", y.undo(), 9);
        Check.equal("undo() of the tenth", y.undo(), 8);
    }

    private static void everyChangeIsRecorded() {
        Edge.sentence("History", "The methods in the section \"changes\" record a change whenever they return normally");
        recorded("advance", x -> x.advance(1));
        recorded("pull", x -> x.pull(2));
        recorded("setDanger", x -> x.setDanger(2), LOST + ";pull 2");
        recorded("repair", x -> x.repair(0));
        recorded("removeWagons", x -> x.removeWagons(0));
        recorded("addWagons", x -> x.addWagons(0, 11));
        recorded("setTopSpeed", x -> x.setTopSpeed(0, 1));
        recorded("restore", x -> x.restore(1), Edge.ONE_TRAIN);
    }

    private static void recorded(String call, Consumer<PeatRailway> change) {
        recorded(call, change, LOST);
    }

    /** The change can be undone, be it the first one or one behind ten others. */
    private static void recorded(String call, Consumer<PeatRailway> change, String text) {
        PeatRailway first = Check.ring(text);
        first.advance(1);
        first.save(1);
        first.undo();
        String before = Check.lookAtState(first);
        change.accept(first);
        Check.equal(call + " alters the state", !Check.lookAtState(first).equals(before), true);
        Check.equal("undo() of " + call, first.undo(), 0);
        Check.same("the state before " + call, Check.lookAtState(first), before);
        PeatRailway eleventh = Edge.busy(text);
        change.accept(eleventh);
        Check.equal("undo() of " + call + " as the eleventh change", eleventh.undo(), 9);
        Check.same("the state before " + call + " as the eleventh", Check.lookAtState(eleventh), before);
        for (int left = 8; left >= 0; left--) {
            Check.equal("undo() of the others", eleventh.undo(), left);
        }
        Check.raises("undo() of the first change, which " + call + " has driven out", Check.STATE, eleventh::undo);
    }

    private static void whatAltersNothingIsRecorded() {
        Edge.sentence("History", "even if they alter nothing.");
        unchanged("repair of depth 0", x -> x.repair(2));
        unchanged("removeWagons of none", x -> x.removeWagons(2));
        unchanged("removeWagons of none with a train", x -> x.removeWagons(1));
        unchanged("setTopSpeed to the same", x -> x.setTopSpeed(0, 3));
        unchanged("restore of the same", x -> x.restore(0));
    }

    private static void unchanged(String call, Consumer<PeatRailway> change) {
        PeatRailway x = lost();
        String before = Check.lookAtState(x);
        for (int times = 1; times <= 12; times++) {
            change.accept(x);
        }
        Check.same("the state after " + call, Check.lookAtState(x), before);
        for (int left = 9; left >= 0; left--) {
            Check.equal("undo() of " + call, x.undo(), left);
        }
        Check.same("the state after all undos", Check.lookAtState(x), before);
        Check.raises("undo() beyond the last " + call, Check.STATE, x::undo);
    }

    private static void whatIsNoChange() {
        Edge.sentence("History", "The methods in the section \"changes\" record a change");
        noChange("append", x -> x.append(0, 0, 0, 0, 0));
        noChange("save(0)", x -> x.save(0));
        noChange("writeRing()", PeatRailway::writeRing);
        noChange("writeTrain(0)", x -> x.writeTrain(0));
        noChange("outputByte(0)", x -> x.outputByte(0));
        noChange("blockAfter(0, 200)", x -> x.blockAfter(0, 200));
        noChange("ticksUntilWait(0)", x -> x.ticksUntilWait(0));
        noChange("a wrong text", x -> Check.raises("load(1)", Check.ARGUMENT, () -> x.load(1)));
        // an undone change can't be undone again, so undo itself is none
        PeatRailway x = Check.ring(LOST);
        x.advance(1);
        x.advance(1);
        x.undo();
        Check.equal("undo() after undo", x.undo(), 0);
    }

    private static void noChange(String call, Consumer<PeatRailway> made) {
        PeatRailway x = Edge.busy(LOST);
        made.accept(x);
        Check.equal("undo() after " + call, x.undo(), 9);
        PeatRailway fresh = Check.ring(LOST);
        fresh.writeRing();
        Check.append(fresh, "!");
        made.accept(fresh);
        Check.raises("undo() of nothing after " + call, Check.STATE, fresh::undo);
    }

    private static void refusedIsNotRecorded() {
        Edge.sentence("History", "A method that throws an exception alters nothing, unless its description says otherwise.");
        Edge.refused("advance(0)", LOST, Check.ARGUMENT, x -> x.advance(0));
        Edge.refused("advance(1) at the last tick", () -> Edge.busyAtLastTick(LOST), Check.STATE, x -> x.advance(1));
        Edge.refused("pull(3)", LOST, Check.INDEX, x -> x.pull(3));
        Edge.refused("pull(0)", LOST, Check.STATE, x -> x.pull(0));
        Edge.refused("setDanger(3)", LOST, Check.INDEX, x -> x.setDanger(3));
        Edge.refused("setDanger(0)", LOST, Check.STATE, x -> x.setDanger(0));
        Edge.refused("repair(3)", LOST, Check.INDEX, x -> x.repair(3));
        Edge.refused("repair(1)", LOST, Check.STATE, x -> x.repair(1));
        Edge.refused("removeWagons(3)", LOST, Check.INDEX, x -> x.removeWagons(3));
        Edge.refused("addWagons(1, 1)", LOST, Check.INDEX, x -> x.addWagons(1, 1));
        Edge.refused("addWagons(0, 0)", LOST, Check.ARGUMENT, x -> x.addWagons(0, 0));
        Edge.refused("addWagons(0, 11)", LOST.replace("train 0 2", "train 0 3"), Check.STATE, x -> x.addWagons(0, 11));
        Edge.refused("setTopSpeed(1, 1)", LOST, Check.INDEX, x -> x.setTopSpeed(1, 1));
        Edge.refused("setTopSpeed(0, 0)", LOST, Check.ARGUMENT, x -> x.setTopSpeed(0, 0));
        Edge.refused("restore(2)", LOST, Check.INDEX, x -> x.restore(2));
        Edge.refused("restore(1), nothing being saved", EdgesHistoryTest::lost, Check.STATE, x -> x.restore(1));
        Edge.refused("save(2)", LOST, Check.INDEX, x -> x.save(2));
        Edge.refused("writeTrain(1)", LOST, Check.INDEX, x -> x.writeTrain(1));
        Edge.refused("outputByte(7)", LOST, Check.INDEX, x -> x.outputByte(7));
    }

    private static void stateBefore() {
        Edge.sentence("History", "Undoing a change restores the state before it");
        for (int made = 0; made < 10; made++) {
            PeatRailway x = changed(10);
            for (int left = 9; left >= made; left--) {
                Check.equal("undo()", x.undo(), left);
            }
            Check.same("the state before change " + (made + 1), Check.lookAtState(x), Check.lookAtState(changed(made)));
        }
    }

    /** An object with the first of ten changes of all kinds made. */
    private static PeatRailway changed(int changes) {
        PeatRailway x = Check.ring("railway;block 5 9;block 5 8;block 5 0 bend 4;block 5 0;train 0 9 5;pull 1;pull 2");
        for (int change = 1; change <= changes; change++) {
            switch (change) {
                case 1: x.advance(20); x.save(0); break;
                case 2: x.removeWagons(0); break;
                case 3: x.pull(0); break;
                case 4: x.setTopSpeed(0, 1); break;
                case 5: x.addWagons(0, 2); break;
                case 6: x.repair(1); break;
                case 7: x.setDanger(0); break;
                case 8: x.advance(99); break;
                case 9: x.restore(0); break;
                default: x.removeWagons(1);
            }
        }
        return x;
    }

    private static void notUndone() {
        Edge.sentence("History", "except for the input buffer, the output buffer, the reported error and the saved states.");
        PeatRailway x = Check.ring(LOST);
        x.advance(1);
        x.writeTrain(0);
        x.save(1);
        Check.append(x, "railway;block 0");
        Check.raises("load", Check.ARGUMENT, () -> x.load(15));
        Check.append(x, "railway;block 2 2   ");
        x.advance(1);
        x.undo();
        x.undo();
        Check.equal("tick()", x.tick(), 1);
        Check.same("the output", Check.output(x), "1:1/1 1w");
        Check.equal("errorKind()", x.errorKind(), 2);
        Check.equal("errorOffset()", x.errorOffset(), 14);
        Check.equal("restore(1)", x.restore(1), 2);
        Check.raises("restore(0), which stays empty", Check.STATE, () -> x.restore(0));
        Check.equal("append", x.append(0x20202020, 0x20202020, 0x20202020, 0x20202020, 0x20202020), 40);
        Check.equal("load(40)", x.load(40), 1);
        // nor does undo bring back what was there before the change
        PeatRailway y = Edge.busy(LOST);
        Check.raises("load(1)", Check.ARGUMENT, () -> y.load(1));
        y.writeTrain(0);
        y.undo();
        Check.equal("errorOffset() of the error since", y.errorOffset(), 0);
        Check.same("the output since", Check.output(y), "1:0/1 1w");
        Check.raises("load(1) of what is gone since", Check.INDEX, () -> y.load(1));
        PeatRailway z = Check.ring(LOST);
        z.save(0);
        z.advance(3);
        z.save(0);
        z.undo();
        Check.equal("restore(0) of what was saved since", z.restore(0), 4);
        z.undo();
        Check.equal("restore(0) once more", z.restore(0), 4);
    }

    private static void slots() {
        Edge.sentence("Promise 52", "Throws IndexOutOfBoundsException if slot is neither 0 nor 1");
        for (int slot : new int[] {-1, 2, 3, Integer.MIN_VALUE, Integer.MAX_VALUE}) {
            Edge.refused("save(" + slot + ")", LOST, Check.INDEX, x -> x.save(slot));
            Edge.refused("save(" + slot + ") of a new object", PeatRailway::new, Check.INDEX, x -> x.save(slot));
        }
        Edge.sentence("The railway", "and two states can be saved.");
        PeatRailway x = Check.ring(LOST);
        Check.equal("save(0)", x.save(0), 1);
        x.advance(1);
        Check.equal("save(1)", x.save(1), 2);
        x.advance(1);
        Check.equal("restore(0)", x.restore(0), 1);
        Check.equal("restore(1)", x.restore(1), 2);
    }

    private static void saveIsNoChange() {
        Edge.sentence("Promise 52", "This is not a change.");
        for (int slot = 0; slot < 2; slot++) {
            PeatRailway x = Check.ring(LOST);
            x.save(slot);
            Check.raises("undo() after save(" + slot + ")", Check.STATE, x::undo);
            x.advance(1);
            x.save(slot);
            Check.equal("undo() of the change before save(" + slot + ")", x.undo(), 0);
            Check.equal("tick()", x.tick(), 1);
            Check.equal("restore(" + slot + ")", x.restore(slot), 2);
            PeatRailway full = Edge.busy(LOST);
            String before = Check.lookAtState(full);
            for (int times = 0; times < 12; times++) {
                full.save(slot);
            }
            Check.same("the state", Check.lookAtState(full), before);
            Check.equal("undo() of ten", full.undo(), 9);
        }
    }

    private static void saveReplaces() {
        Edge.sentence("Promise 52", "Saves the state that undo() restores in a slot and replaces what was saved there.");
        for (int slot = 0; slot < 2; slot++) {
            PeatRailway x = Check.ring("railway;block 1 9;block 1 0;block 1 0;train 0 4 5;pull 1");
            x.save(1 - slot);
            String first = Check.lookAtState(x);
            for (int times = 1; times <= 2; times++) {
                x.advance(times);
                x.removeWagons(0);
                x.setTopSpeed(0, times);
                String saved = Check.lookAtState(x);
                x.save(slot);
                x.advance(9);
                x.pull(2);
                x.restore(slot);
                Check.same("the state that was saved in slot " + slot, Check.lookAtState(x), saved);
            }
            x.restore(1 - slot);
            Check.same("the state in the other slot", Check.lookAtState(x), first);
            // the saved state is no part of the present one
            x.setTopSpeed(0, 2);
            x.restore(slot);
            x.addWagons(0, 5);
            x.restore(1 - slot);
            Check.same("the state in the other slot after changes", Check.lookAtState(x), first);
        }
        // buffers and error are not saved
        PeatRailway x = Edge.busy(LOST);
        x.save(0);
        x.writeTrain(0);
        Check.append(x, " ");
        Check.raises("load(0)", Check.ARGUMENT, () -> x.load(0));
        x.restore(0);
        Check.same("the output", Check.output(x), "1:0/1 1w");
        Check.equal("errorKind()", x.errorKind(), 1);
        Check.equal("errorOffset()", x.errorOffset(), 0);
        Check.raises("load(1)", Check.INDEX, () -> x.load(1));
    }

    private static void savedTick() {
        Edge.sentence("Promise 52", "Returns the tick number of the saved state.");
        Check.equal("save(0), the smallest", Check.ring(Edge.NO_BLOCKS).save(0), 0);
        Check.equal("save(1) of a new object", new PeatRailway().save(1), 3);
        Check.equal("save(1), the greatest", Edge.busyAtLastTick(LOST).save(1), 9999);
        PeatRailway x = Check.ring(LOST);
        x.advance(5);
        x.undo();
        Check.equal("save(0) after undo", x.save(0), 1);
    }
}
