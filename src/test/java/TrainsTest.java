/** Promises 21 to 35 and one tick: the questions about trains, how they move, and the forecasts. */
public final class TrainsTest {
    public static void main(String[] args) {
        plainQuestions();
        moving();
        leaving();
        orderOfTrains();
        passages();
        ahead();
        blockAfter();
        ticksUntilWait();
        Check.end();
    }

    private static void plainQuestions() {
        Check.equal("trainCount() of none", Check.ring("railway;block 5 0").trainCount(), 0);
        PeatRailway x = Check.ring("railway;block 20 0;block 9 0 bend 2;block 4 0;train 1 12 5;train 0 1 1");
        Check.equal("trainCount()", x.trainCount(), 2);
        Check.equal("blockOf(0)", x.blockOf(0), 1);
        Check.equal("blockOf(1)", x.blockOf(1), 0);
        Check.equal("positionOf(0)", x.positionOf(0), 0);
        Check.equal("wagonsOf(0)", x.wagonsOf(0), 12);
        Check.equal("wagonsOf(1)", x.wagonsOf(1), 1);
        Check.equal("topSpeedOf(0)", x.topSpeedOf(0), 5);
        Check.equal("speedOf(0)", x.speedOf(0), 2);
        Check.equal("speedOf(1)", x.speedOf(1), 1);
        Check.equal("ticksToEnd(0), rounded up", x.ticksToEnd(0), 5);
        Check.equal("ticksToEnd(1)", x.ticksToEnd(1), 20);
        x.setTopSpeed(1, 5);
        Check.equal("speedOf(1) at its top", x.speedOf(1), 5);
        Check.equal("ticksToEnd(1) without a rest", x.ticksToEnd(1), 4);
        x.setTopSpeed(1, 3);
        Check.equal("ticksToEnd(1) with a rest", x.ticksToEnd(1), 7);
        x.advance(4);
        Check.equal("positionOf(0)", x.positionOf(0), 8);
        Check.equal("ticksToEnd(0) for one", x.ticksToEnd(0), 1);
        Check.equal("waitsOf(0) before the end", x.waitsOf(0), 0);
        x.advance(1);
        Check.equal("positionOf(0) at the end", x.positionOf(0), 9);
        Check.equal("ticksToEnd(0) at the end", x.ticksToEnd(0), 0);
        Check.equal("waitsOf(0) at the end", x.waitsOf(0), 1);
        x.advance(3);
        Check.equal("waitsOf(0) later", x.waitsOf(0), 4);
        x.pull(2);
        x.advance(1);
        Check.equal("blockOf(0) later", x.blockOf(0), 2);
        Check.equal("positionOf(0) later", x.positionOf(0), 0);
        Check.equal("speedOf(0) out of the bend", x.speedOf(0), 5);
        Check.equal("waitsOf(0) when it left", x.waitsOf(0), 4);
    }

    private static void moving() {
        // the signal of the entered block falls, the others stay
        PeatRailway x = Check.ring("railway;block 5 0;block 5 0;block 5 0;train 0 1 5;pull 1;pull 2");
        Check.equal("advance(1)", x.advance(1), 1);
        Check.equal("isClear(1)", x.isClear(1), false);
        Check.equal("isClear(2)", x.isClear(2), true);
        Check.equal("only one block a tick", x.blockOf(0), 1);
        // a clear signal before an occupied block does not help
        PeatRailway y = Check.ring("railway;block 5 0;block 5 0;pull 1;train 1 1 1;train 0 1 5;ticks 1");
        Check.equal("blockOf(1)", y.blockOf(1), 0);
        Check.equal("waitsOf(1)", y.waitsOf(1), 1);
        Check.equal("isClear(1) stays", y.isClear(1), true);
        // lost wagons before it hold a train too
        PeatRailway z = Check.ring("railway;block 5 9;pull 0;block 5 0;train 0 3 5;pull 1;ticks 1");
        z.advance(1);
        Check.equal("blockOf(0) behind its own wagon", z.blockOf(0), 1);
        Check.equal("waitsOf(0) behind its own wagon", z.waitsOf(0), 1);
        z.removeWagons(0);
        z.advance(1);
        Check.equal("blockOf(0) once it is gone", z.blockOf(0), 0);
        // a ring of one block never lets its train in
        PeatRailway w = Check.ring("railway;block 5 0;pull 0;train 0 1 5;ticks 3");
        Check.equal("waitsOf(0) in a ring of one", w.waitsOf(0), 3);
        Check.equal("departuresFrom(0) in a ring of one", w.departuresFrom(0), 0);
    }

    private static void leaving() {
        left("railway;block 5 7;block 5 0;train 0 2 3;pull 1;ticks 2", 1, 1, 8);
        left("railway;block 5 6;block 5 0;train 0 2 3;pull 1;ticks 2", 2, 0, 7);
        left("railway;block 5 7;block 5 0;train 0 2 2;pull 1;ticks 3", 2, 0, 8);
        left("railway;block 5 7 bend 2;block 5 0;train 0 2 5;pull 1;ticks 3", 2, 0, 8);
        left("railway;block 5 7 bend 3;block 5 0;train 0 2 5;pull 1;ticks 2", 1, 1, 8);
        left("railway;block 5 7;block 5 0 bend 1;block 5 0;train 0 2 5;pull 1;ticks 1", 1, 1, 8);
        left("railway;block 5 7;block 5 0;train 0 1 3;pull 1;ticks 2", 1, 0, 8);
        left("railway;block 5 9;block 5 0;train 0 12 5;pull 1;ticks 1", 11, 1, 9);
        // the wagons that remain make it sink: 1 + 3 / 4, 1 + 4 / 4, 1 + 7 / 4, 1 + 12 / 4
        left("railway;block 5 0;block 5 0;train 0 3 5;pull 1;ticks 1", 3, 0, 1);
        left("railway;block 5 0;block 5 0;train 0 4 5;pull 1;ticks 1", 4, 0, 2);
        left("railway;block 5 0;block 5 0;train 0 7 5;pull 1;ticks 1", 7, 0, 2);
        left("railway;block 5 0;block 5 0;train 0 8 5;pull 1;ticks 1", 8, 0, 3);
        left("railway;block 5 0;block 5 0;train 0 12 5;pull 1;ticks 1", 12, 0, 4);
        left("railway;block 5 7;block 5 0;train 0 4 5;pull 1;ticks 1", 3, 1, 8);
        left("railway;block 5 7;block 5 0;train 0 5 5;pull 1;ticks 1", 4, 1, 9);
        left("railway;block 5 6;block 5 0;train 0 12 5;pull 1;ticks 1", 12, 0, 9);
    }

    /** A train has left block 0 for block 1. */
    private static void left(String text, int wagons, int lost, int depth) {
        PeatRailway x = Check.ring(text);
        Check.equal(text + ": blockOf(0)", x.blockOf(0), 1);
        Check.equal(text + ": wagonsOf(0)", x.wagonsOf(0), wagons);
        Check.equal(text + ": lostIn(0)", x.lostIn(0), lost);
        Check.equal(text + ": depthOf(0)", x.depthOf(0), depth);
        Check.equal(text + ": depthOf(1)", x.depthOf(1), 0);
        Check.equal(text + ": wagonDifference()", x.wagonDifference(), 0);
    }

    private static void orderOfTrains() {
        // train 0 ahead leaves first, so train 1 can follow in the same tick
        PeatRailway x = Check.ring("railway;block 1 0;block 1 0;block 1 0;pull 1;train 1 1 1;train 0 1 1;pull 2");
        Check.equal("advance(1), the first ahead", x.advance(1), 2);
        Check.equal("blockOf(0)", x.blockOf(0), 2);
        Check.equal("blockOf(1)", x.blockOf(1), 1);
        // the other way round, the train behind moves first and waits
        PeatRailway y = Check.ring("railway;block 1 0;block 1 0;block 1 0;pull 1;train 0 1 1;train 1 1 1;pull 2");
        Check.equal("advance(1), the first behind", y.advance(1), 1);
        Check.equal("waitsOf(0)", y.waitsOf(0), 1);
        Check.equal("blockOf(0)", y.blockOf(0), 0);
        Check.equal("blockOf(1)", y.blockOf(1), 2);
    }

    private static void passages() {
        PeatRailway x = Check.ring("railway;block 1 0;block 1 0;block 1 0;train 1 1 1;train 0 1 1;pull 2;ticks 1;pull 1;ticks 1");
        Check.equal("passages(0, 1)", x.passages(0, 1), 1);
        Check.equal("passages(0, 0)", x.passages(0, 0), 0);
        Check.equal("passages(1, 0)", x.passages(1, 0), 1);
        Check.equal("passages(1, 1)", x.passages(1, 1), 0);
        Check.equal("differentPassages()", x.differentPassages(), 2);
        PeatRailway y = Check.ring("railway;block 1 0;block 1 0;train 0 1 1;pull 1;ticks 1;pull 0;ticks 1;pull 1;ticks 1");
        Check.equal("passages(0, 0) twice", y.passages(0, 0), 2);
        Check.equal("differentPassages() counts each pair once", y.differentPassages(), 2);
        PeatRailway ten = Check.ring("railway;block 1 0;block 1 0" + ";block 9 0".repeat(8)
                + ";train 1 1 1;train 0 1 1;pull 2;ticks 1;pull 1;ticks 1");
        Check.equal("differentPassages() in a ring of ten", ten.differentPassages(), 2);
        Check.equal("differentPassages() of none", Check.ring("railway").differentPassages(), 0);
        // blocks that come later stand behind the last one from then on
        PeatRailway z = Check.ring("railway;block 1 0;block 1 0;train 1 1 1;pull 0;ticks 1;pull 1;ticks 1;block 3 0;pull 2;ticks 1");
        Check.equal("blockOf(0) in the new block", z.blockOf(0), 2);
        Check.equal("passages(0, 1)", z.passages(0, 1), 2);
    }

    private static void ahead() {
        PeatRailway x = Check.ring("railway;block 5 9;block 5 0;block 5 0;block 5 0;block 5 0;block 5 0;"
                + "train 0 5 5;pull 1;ticks 1;train 4 1 1;train 5 1 1");
        // block 0 holds a lost wagon; trains 0, 1 and 2 are in 1, 4 and 5
        Check.equal("trainAhead(0)", x.trainAhead(0), 1);
        Check.equal("trainAhead(1)", x.trainAhead(1), 2);
        Check.equal("trainAhead(2) round the ring", x.trainAhead(2), 0);
        Check.equal("clearBlocksAhead(0)", x.clearBlocksAhead(0), 2);
        Check.equal("clearBlocksAhead(1)", x.clearBlocksAhead(1), 0);
        Check.equal("clearBlocksAhead(2) before a lost wagon", x.clearBlocksAhead(2), 0);
        PeatRailway behind = Check.ring("railway;block 5 0;block 5 0;block 5 0;train 1 1 1;train 0 1 1");
        Check.equal("trainAhead(0), the other just behind it", behind.trainAhead(0), 1);
        Check.equal("trainAhead(1), the other just before it", behind.trainAhead(1), 0);
        PeatRailway alone = Check.ring("railway;block 5 0;block 5 0;block 5 0;train 1 1 1");
        Check.equal("trainAhead(0) alone", alone.trainAhead(0), PeatRailway.NONE);
        Check.equal("clearBlocksAhead(0) alone", alone.clearBlocksAhead(0), 2);
        PeatRailway one = Check.ring("railway;block 5 0;train 0 1 1");
        Check.equal("trainAhead(0) in a ring of one", one.trainAhead(0), PeatRailway.NONE);
        Check.equal("clearBlocksAhead(0) in a ring of one", one.clearBlocksAhead(0), 0);
        Check.equal("canEnter(0) in a ring of one", one.canEnter(0), false);
        Check.equal("canEnter(0) at danger", alone.canEnter(0), false);
        alone.pull(2);
        Check.equal("canEnter(0) before it is at the end", alone.canEnter(0), true);
        alone.setDanger(2);
        Check.equal("canEnter(0) at danger again", alone.canEnter(0), false);
        PeatRailway held = Check.ring("railway;block 5 0;block 5 0;pull 0;train 0 1 1;train 1 1 1");
        Check.equal("canEnter(1) before a train", held.canEnter(1), false);
        PeatRailway wagon = Check.ring("railway;block 5 9;pull 0;block 5 0;train 0 5 5;pull 1;ticks 1");
        Check.equal("canEnter(0) before a lost wagon", wagon.canEnter(0), false);
        wagon.removeWagons(0);
        Check.equal("canEnter(0) behind the clear signal", wagon.canEnter(0), true);
    }

    private static void blockAfter() {
        PeatRailway x = Check.ring("railway;block 5 0;block 20 0;block 5 0;train 0 8 5;pull 1;pull 2");
        Check.equal("blockAfter(0, 0)", x.blockAfter(0, 0), 0);
        Check.equal("blockAfter(0, 1)", x.blockAfter(0, 1), 1);
        Check.equal("blockAfter(0, 4)", x.blockAfter(0, 4), 1);
        Check.equal("blockAfter(0, 5)", x.blockAfter(0, 5), 2);
        Check.equal("blockAfter(0, 200)", x.blockAfter(0, 200), 2);
        Check.raises("blockAfter(0, 201)", Check.ARGUMENT, () -> x.blockAfter(0, 201));
        Check.raises("blockAfter(0, -1)", Check.ARGUMENT, () -> x.blockAfter(0, -1));
        Check.raises("blockAfter(0, the least int)", Check.ARGUMENT, () -> x.blockAfter(0, Integer.MIN_VALUE));
        Check.equal("tick() after forecasts", x.tick(), 0);
        Check.equal("blockOf(0) after forecasts", x.blockOf(0), 0);
        Check.equal("isClear(1) after forecasts", x.isClear(1), true);
        Check.equal("depthOf(0) after forecasts", x.depthOf(0), 0);
        Check.raises("undo() after forecasts", Check.STATE, x::undo);
        PeatRailway late = late();
        Check.equal("blockAfter(0, 200) beyond tick 9999", late.blockAfter(0, 200), 1);
        Check.equal("tick() after it", late.tick(), 9999);
        // 200 ticks just suffice
        PeatRailway far = Check.ring("railway" + ";block 20 0".repeat(10)
                + ";train 0 1 1;pull 1;pull 2;pull 3;pull 4;pull 5;pull 6;pull 7;pull 8;pull 9;ticks 5");
        Check.equal("blockAfter(0, 174)", far.blockAfter(0, 174), 8);
        Check.equal("blockAfter(0, 175)", far.blockAfter(0, 175), 9);
    }

    private static void ticksUntilWait() {
        PeatRailway x = Check.ring("railway;block 5 0;block 20 0;train 0 8 5;pull 1");
        Check.equal("ticksUntilWait(0)", x.ticksUntilWait(0), 5);
        x.advance(4);
        Check.equal("ticksUntilWait(0) at once", x.ticksUntilWait(0), 1);
        x.advance(3);
        Check.equal("ticksUntilWait(0) while it waits", x.ticksUntilWait(0), 1);
        Check.equal("waitsOf(0) after forecasts", x.waitsOf(0), 3);
        String pulls = ";train 0 1 1;pull 1;pull 2;pull 3;pull 4;pull 5;pull 6;pull 7;pull 8;pull 9";
        PeatRailway far = Check.ring("railway" + ";block 20 0".repeat(10) + pulls);
        Check.equal("ticksUntilWait(0) after 200", far.ticksUntilWait(0), 200);
        Check.equal("tick() after it", far.tick(), 0);
        // with the signal of block 0 clear it goes on until block 1
        PeatRailway round = Check.ring("railway;block 20 0;pull 0" + ";block 20 0".repeat(9) + pulls);
        Check.equal("ticksUntilWait(0) beyond 200", round.ticksUntilWait(0), PeatRailway.NONE);
        round.advance(20);
        Check.equal("ticksUntilWait(0) of 200 again", round.ticksUntilWait(0), 200);
        round.advance(1);
        Check.equal("ticksUntilWait(0) of 199", round.ticksUntilWait(0), 199);
        Check.equal("ticksUntilWait(0) beyond tick 9999", late().ticksUntilWait(0), 21);
        // the waits of another train are not its own
        PeatRailway two = Check.ring("railway;block 20 0;block 1 0;train 0 1 1;train 1 1 1");
        Check.equal("ticksUntilWait(0)", two.ticksUntilWait(0), 20);
        Check.equal("ticksUntilWait(1)", two.ticksUntilWait(1), 1);
    }

    /** At tick 9999, with a train that enters block 1 with the next tick and waits 20 ticks later. */
    private static PeatRailway late() {
        PeatRailway x = Check.ring("railway;block 20 0;block 20 0;train 0 1 1");
        for (int part = 0; part < 101; part++) {
            x.advance(99);
        }
        x.pull(1);
        Check.raises("advance(1) at tick 9999", Check.STATE, () -> x.advance(1));
        return x;
    }
}
