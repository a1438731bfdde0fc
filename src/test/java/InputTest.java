/** Promises 1 to 5: the new object, the input buffer, and the parser with its errors. */
public final class InputTest {
    private static final String FIRST =
            "railway; block 6 2; block 4 7 bend 3; block 8 0; block 5 8; train 0 5 4; train 3 8 5; pull 1; ticks 3";
    private static final String TEN = "railway" + ";block 1 0".repeat(10);
    private static final String FIVE = "railway" + ";block 1 0".repeat(6)
            + ";train 0 1 1;train 1 1 1;train 2 1 1;train 3 1 1;train 4 1 1";

    public static void main(String[] args) {
        newObject();
        appending();
        loading();
        loadReplacesAll();
        refusedLoads();
        shape();
        numbers();
        trainsAndBlocks();
        refusedNumbers();
        smallestOffset();
        Check.end();
    }

    private static void newObject() {
        PeatRailway x = new PeatRailway();
        Check.equal("errorKind() of a new object", x.errorKind(), 0);
        Check.equal("errorOffset() of a new object", x.errorOffset(), PeatRailway.NONE);
        Check.raises("outputByte(0) of a new object", Check.INDEX, () -> x.outputByte(0));
        Check.raises("load(1) of a new object", Check.INDEX, () -> x.load(1));
        Check.raises("undo() of a new object", Check.STATE, x::undo);
        Check.raises("restore(0) of a new object", Check.STATE, () -> x.restore(0));
        Check.raises("restore(1) of a new object", Check.STATE, () -> x.restore(1));
        Check.same("a new object", Check.look(x), Check.look(Check.ring(FIRST)));
        Check.equal("tick()", x.tick(), 3);
        Check.equal("blockOf(0)", x.blockOf(0), 1);
        Check.equal("positionOf(0)", x.positionOf(0), 3);
        Check.equal("waitsOf(1)", x.waitsOf(1), 3);
        Check.equal("depthOf(0)", x.depthOf(0), 4);
        x.advance(50);
        Check.equal("tick() of another object", new PeatRailway().tick(), 3);
    }

    private static void appending() {
        PeatRailway x = new PeatRailway();
        for (int part = 1; part <= 30; part++) {
            Check.equal("append as number " + part, x.append(0, 0, 0, 0, 0), 20 * part);
        }
        Check.raises("the 31st append", Check.STATE, () -> x.append(1, 2, 3, 4, 5));
        Check.raises("load(601)", Check.INDEX, () -> x.load(601));
        Check.raises("load(600)", Check.ARGUMENT, () -> x.load(600));
        Check.equal("append after it", x.append(0, 0, 0, 0, 0), 20);
        // the refused append left the first 600 bytes alone
        PeatRailway y = new PeatRailway();
        Check.append(y, "railway" + " ".repeat(592) + ";");
        Check.raises("append to 600 bytes", Check.STATE, () -> y.append(0x21212121, 0, 0, 0, 0));
        Check.raises("load(600)", Check.ARGUMENT, () -> y.load(600));
        Check.equal("errorOffset()", y.errorOffset(), 600);
        // each parameter's bytes in order, most significant first
        PeatRailway z = new PeatRailway();
        z.append(0x7261696c, 0x7761793b, 0x626c6f63, 0x6b203720, 0x33ff80ff);
        Check.equal("load(17)", z.load(17), 1);
        Check.equal("lengthOf(0)", z.lengthOf(0), 7);
        Check.equal("depthOf(0)", z.depthOf(0), 3);
        Check.raises("load(1) after load(17)", Check.INDEX, () -> z.load(1));
    }

    private static void loading() {
        PeatRailway x = new PeatRailway();
        Check.raises("load(-1)", Check.INDEX, () -> x.load(-1));
        Check.raises("load(0)", Check.ARGUMENT, () -> x.load(0));
        Check.equal("errorKind()", x.errorKind(), 1);
        Check.equal("errorOffset()", x.errorOffset(), 0);
        Check.append(x, "railway");
        Check.raises("load(-1)", Check.INDEX, () -> x.load(-1));
        Check.raises("load of the least int", Check.INDEX, () -> x.load(Integer.MIN_VALUE));
        Check.raises("load(21)", Check.INDEX, () -> x.load(21));
        Check.raises("load of the greatest int", Check.INDEX, () -> x.load(Integer.MAX_VALUE));
        Check.equal("errorKind() is still told", x.errorKind(), 1);
        Check.equal("load(20), the buffer being as it was", x.load(20), 0);
        Check.equal("errorKind() after a right text", x.errorKind(), 0);
        Check.equal("errorOffset() after a right text", x.errorOffset(), PeatRailway.NONE);
        Check.raises("load(1) on the empty buffer", Check.INDEX, () -> x.load(1));
        Check.equal("append after load", x.append(0, 0, 0, 0, 0), 20);
    }

    private static void loadReplacesAll() {
        PeatRailway x = new PeatRailway();
        x.save(0);
        x.save(1);
        x.pull(2);
        x.writeTrain(1);
        Check.equal("load", Check.load(x, "railway;block 3 1;block 20 9 bend 5;train 1 12 5;ticks 2"), 2);
        Check.same("the output stays", Check.output(x), "3:5/5 8w");
        Check.raises("undo() after load", Check.STATE, x::undo);
        Check.raises("restore(0) after load", Check.STATE, () -> x.restore(0));
        Check.raises("restore(1) after load", Check.STATE, () -> x.restore(1));
        Check.same("the loaded state", Check.lookAtState(x), Check.lookAtState(
                Check.ring("railway;block 3 1;block 20 9 bend 5;train 1 12 5;ticks 2")));
        Check.equal("tick()", x.tick(), 2);
        Check.equal("waitsOf(0)", x.waitsOf(0), 0);
        Check.equal("departuresFrom(0)", x.departuresFrom(0), 0);
        // what an earlier state counted does not show in a later one
        Check.load(x, "railway;block 2 8;block 2 0;train 0 4 5;pull 1;ticks 1");
        Check.equal("lostIn(0)", x.lostIn(0), 1);
        x.removeWagons(0);
        x.addWagons(0, 3);
        Check.load(x, "railway;block 2 8;block 2 0;train 0 4 5");
        Check.equal("removedWagons()", x.removedWagons(), 0);
        Check.equal("lostWagons()", x.lostWagons(), 0);
        Check.equal("passages(0, 0)", x.passages(0, 0), 0);
        Check.equal("waitsOf(0)", x.waitsOf(0), 0);
        Check.equal("wagonDifference()", x.wagonDifference(), 0);
        Check.equal("isClear(1)", x.isClear(1), false);
        Check.load(x, "railway;block 2 8;block 2 0;pull 1;pull 0");
        Check.load(x, "railway;block 2 8");
        Check.equal("isClear(0)", x.isClear(0), false);
        Check.equal("pull(0), the only one", x.pull(0), 1);
    }

    private static void refusedLoads() {
        PeatRailway x = new PeatRailway();
        x.save(1);
        x.pull(2);
        x.writeRing();
        Check.append(x, "railway; block 0");
        String state = Check.lookAtState(x);
        Check.raises("load", Check.ARGUMENT, () -> x.load(16));
        Check.same("the state", Check.lookAtState(x), state);
        Check.same("the output", Check.output(x), "-_-0+_-1");
        Check.equal("undo()", x.undo(), 0);
        Check.equal("restore(1)", x.restore(1), 3);
        Check.equal("errorKind() after other calls", x.errorKind(), 2);
        Check.equal("errorOffset() after other calls", x.errorOffset(), 15);
        // an error replaces the error before it
        Check.append(x, "railway;ticks 5;;");
        Check.raises("load", Check.ARGUMENT, () -> x.load(17));
        Check.equal("errorKind()", x.errorKind(), 1);
        Check.equal("errorOffset()", x.errorOffset(), 16);
        Check.equal("tick()", x.tick(), 3);
    }

    private static void shape() {
        Check.right("railway", 0);
        Check.right(" \n railway\n", 0);
        Check.right("railway;block 5 3;block 5 3bend 4".replace("3bend", "3 bend"), 2);
        Check.right("railway\n;\nblock\n5\n3\nbend\n2\n;ticks 5", 1);
        Check.right("railway;block 5 3 bend 1;block 5 3;train 0 1 1;repair 1;pull 1;danger 1", 2);
        Check.right("railway;block 005 003", 1);
        Check.error("", 1, 0);
        Check.error("   ", 1, 3);
        Check.error("rail", 1, 0);
        Check.error("railways", 1, 0);
        Check.error(" tram", 1, 1);
        Check.error("tailway", 1, 0);
        Check.error("railwax", 1, 0);
        Check.error("railway;clock 5 2", 1, 8);
        Check.error(";railway", 1, 0);
        Check.error("7", 1, 0);
        Check.error("Railway", 1, 0);
        Check.error("railway;", 1, 8);
        Check.error("railway; ", 1, 9);
        Check.error("railway;;", 1, 8);
        Check.error("railway block", 1, 8);
        Check.error("railway 5", 1, 8);
        Check.error("railway5", 1, 7);
        Check.error("railway.", 1, 7);
        Check.error("railway\t;ticks 1", 1, 7);
        Check.error("railway\r", 1, 7);
        Check.error("railway\0", 1, 7);
        Check.error("railway\u00e1", 1, 7);
        Check.error("railway;\u00bb", 1, 8);
        Check.error("railway; bend 3", 1, 9);
        Check.error("railway; block", 1, 14);
        Check.error("railway; block ", 1, 15);
        Check.error("railway; block 5", 1, 16);
        Check.error("railway; block 5;", 1, 16);
        Check.error("railway; block 5 2 3", 1, 19);
        Check.error("railway; block 5 2 ticks", 1, 19);
        Check.error("railway; block 5 2 bend", 1, 23);
        Check.error("railway; block 5 2 bend bend", 1, 24);
        Check.error("railway; block 5 2 bend 3 4", 1, 26);
        Check.error("railway; block5 2", 1, 14);
        Check.error("railway; block 5 2bend 3", 1, 18);
        Check.error("railway; block 5 2 bend3", 1, 23);
        Check.error("railway; blocks 5 2", 1, 9);
        Check.error("railway; bloc 5 2", 1, 9);
        Check.error("railway; bloce 5 2", 1, 9);
        Check.error("railway; ticks -5", 1, 15);
        Check.error("railway; ticks 5 5", 1, 17);
        Check.error("railway; ticks 5x", 1, 16);
        Check.error("railway; ticks5", 1, 14);
        Check.error("railway; block 5 0; pull0", 1, 24);
        Check.error("railway; block 5 0; train 0 1", 1, 29);
        Check.error("railway; block 5 0; train 0 1;", 1, 29);
        Check.error("railway; block 5 0; train 0 1 1 1", 1, 32);
        Check.error("railway; block 5 0; pull", 1, 24);
        Check.error("railway; block 5 0; danger;", 1, 26);
        Check.error("railway; block 5 0; repair x", 1, 27);
    }

    private static void numbers() {
        Check.right("railway;block 1 0;block 20 9;block 3 4 bend 1;block 3 4 bend 5;ticks 1;ticks 99", 4);
        Check.error("railway;block 0 0", 2, 14);
        Check.error("railway;block 21 0", 2, 14);
        Check.error("railway;block 999 0", 2, 14);
        Check.error("railway;block 1000 0", 1, 14);
        Check.error("railway;block 0001 0", 1, 14);
        Check.error("railway;block 99999999999999999999 0", 1, 14);
        Check.error("railway;block 5 10", 2, 16);
        Check.error("railway;block 5 9 bend 0", 2, 23);
        Check.error("railway;block 5 9 bend 6", 2, 23);
        Check.error("railway;block 5 9;train 1 1 1", 2, 24);
        Check.error("railway;train 0 1 1", 2, 14);
        Check.error("railway;block 5 9;train 0 0 1", 2, 26);
        Check.error("railway;block 5 9;train 0 13 1", 2, 26);
        Check.right("railway;block 5 9;train 0 12 5", 1);
        Check.error("railway;block 5 9;train 0 12 0", 2, 29);
        Check.error("railway;block 5 9;train 0 12 6", 2, 29);
        Check.error("railway;ticks 0", 2, 14);
        Check.error("railway;ticks 100", 2, 14);
        Check.error("railway;pull 0", 2, 13);
        Check.error("railway;danger 0", 2, 15);
        Check.error("railway;repair 0", 2, 15);
        Check.error("railway;block 5 9;pull 1", 2, 23);
        Check.error("railway;block 5 9;danger 1", 2, 25);
        Check.error("railway;block 5 9;repair 1", 2, 25);
        // a block exists only behind its line
        Check.error("railway;pull 0;block 5 9", 2, 13);
    }

    private static void trainsAndBlocks() {
        Check.right(TEN, 10);
        Check.error(TEN + ";block 1 0", 4, 108);
        Check.error(TEN + "; block", 4, 109);
        Check.error(TEN + ";block 99999", 4, 108);
        Check.error(TEN + ";blocks", 1, 108);
        Check.right(FIVE, 6);
        Check.error(FIVE + ";train 5 1 1", 4, FIVE.length() + 1);
        Check.error(FIVE + ";train 0 1 1", 4, FIVE.length() + 1);
        Check.error(FIVE + "; train", 4, FIVE.length() + 2);
        Check.error("railway;block 5 0;train 0 1 1;train 0 1 1", 3, 36);
        Check.error("railway;block 5 0;train 0 1 1;train 0 99 99", 3, 36);
        Check.error("railway;block 5 0;train 0 1 1;train 0", 3, 36);
        // lost wagons occupy a block too; the block that the train left without losing one is free
        Check.error("railway;block 1 7;block 1 0;train 0 2 3;pull 1;ticks 1;train 0 1 1", 3, 61);
        Check.right("railway;block 1 6;block 1 0;train 0 2 3;pull 1;ticks 1;train 0 1 1", 2);
        // a signal that is clear already stays so when a train is set behind it
        PeatRailway x = Check.ring("railway;block 1 0;pull 0;train 0 1 1;ticks 2");
        Check.equal("isClear(0)", x.isClear(0), true);
        Check.equal("waitsOf(0)", x.waitsOf(0), 2);
        Check.equal("canEnter(0)", x.canEnter(0), false);
        Check.equal("setDanger(0)", x.setDanger(0), 0);
    }

    private static void refusedNumbers() {
        Check.error("railway;block 5 0;pull 0;pull 0", 5, 30);
        Check.error("railway;block 5 0;train 0 1 1;pull 0", 5, 35);
        Check.error("railway;block 1 7;block 1 0;train 0 2 3;pull 1;ticks 1;pull 0", 5, 60);
        Check.error("railway;block 5 0 bend 1;block 5 0;train 1 1 1;pull 0", 5, 52);
        Check.right("railway;block 5 0;block 5 0;train 1 1 1;pull 0", 2);
        Check.error("railway;block 5 0;danger 0", 5, 25);
        Check.error("railway;block 5 0;pull 0;danger 0;danger 0", 5, 41);
        Check.error("railway;block 5 0;train 0 1 1;repair 0", 5, 37);
        Check.right("railway;block 5 0;repair 0;repair 0", 1);
        // repair is not refused for lost wagons
        Check.right("railway;block 1 7;block 1 0;train 0 2 3;pull 1;ticks 1;repair 0", 2);
        PeatRailway x = Check.ring("railway;block 5 7;block 5 8;repair 1;pull 0;pull 1;danger 0");
        Check.equal("depthOf(0)", x.depthOf(0), 7);
        Check.equal("depthOf(1)", x.depthOf(1), 0);
        Check.equal("isClear(0)", x.isClear(0), false);
        Check.equal("isClear(1)", x.isClear(1), true);
    }

    private static void smallestOffset() {
        // a refused number comes before the syntax error that follows it
        Check.error("railway;block 5 0;danger 0x", 5, 25);
        Check.error("railway;ticks 0;;", 2, 14);
        Check.error("railway;block 5 0;train 0 1 1;train 0x", 3, 36);
        Check.error("railway;block 0 99", 2, 14);
        Check.error("railway;block 5 99 bend x", 2, 16);
        Check.error("railway;blok;block 0 0", 1, 8);
        // only the first bytes count
        PeatRailway x = new PeatRailway();
        Check.append(x, "railway;block 20 9;!");
        Check.equal("load(18)", x.load(18), 1);
        Check.append(x, "railway;block 20 9;!");
        Check.raises("load(15)", Check.ARGUMENT, () -> x.load(15));
        Check.equal("errorOffset()", x.errorOffset(), 15);
        Check.append(x, "railway;block 20 9;!");
        Check.equal("lengthOf(0)", x.lengthOf(0), 20);
        Check.raises("load(14)", Check.ARGUMENT, () -> x.load(14));
        Check.equal("errorOffset()", x.errorOffset(), 14);
    }
}
