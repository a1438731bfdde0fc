/** Each boundary that promises 1 to 5 name: the new object, append, load and the reported error. */
public final class EdgesInputTest {
    private static final String FIRST =
            "railway; block 6 2; block 4 7 bend 3; block 8 0; block 5 8; train 0 5 4; train 3 8 5; pull 1; ticks 3";
    private static final String OTHER = "railway;block 7 2;block 5 5;train 0 4 2;ticks 2";

    public static void main(String[] args) {
        newObject();
        newObjectsBuffers();
        appendedBytes();
        lengthOfBuffer();
        fullBuffer();
        lengthToParse();
        firstBytes();
        wholeState();
        discarded();
        emptiedInput();
        loadedCount();
        refusedLength();
        refusedText();
        errorKinds();
        errorOffsets();
        lastOfManyCalls();
        Edge.end(1, 5);
    }

    private static void newObject() {
        Edge.sentence("Promise 1", "Creates the simulator in the state that the class comment describes.");
        PeatRailway x = new PeatRailway();
        Check.equal("tick()", x.tick(), 3);
        Check.equal("blockCount()", x.blockCount(), 4);
        Check.equal("trainCount()", x.trainCount(), 2);
        row("lengths", x, 6, 4, 8, 5);
        Check.same("depths", x.depthOf(0) + " " + x.depthOf(1) + " " + x.depthOf(2) + " " + x.depthOf(3), "4 7 0 8");
        Check.same("limits", x.limitOf(0) + " " + x.limitOf(1) + " " + x.limitOf(2) + " " + x.limitOf(3), "5 3 5 5");
        Check.same("trains", x.trainIn(0) + " " + x.trainIn(1) + " " + x.trainIn(2) + " " + x.trainIn(3), "-1 0 -1 1");
        Check.equal("isClear(1), the train having passed", x.isClear(1), false);
        Check.same("train 0", x.blockOf(0) + " " + x.positionOf(0) + " " + x.wagonsOf(0) + " " + x.topSpeedOf(0)
                + " " + x.speedOf(0) + " " + x.waitsOf(0), "1 3 5 4 3 0");
        Check.same("train 1", x.blockOf(1) + " " + x.positionOf(1) + " " + x.wagonsOf(1) + " " + x.topSpeedOf(1)
                + " " + x.speedOf(1) + " " + x.waitsOf(1), "3 5 8 5 5 3");
        Check.equal("departuresFrom(0)", x.departuresFrom(0), 1);
        Check.equal("passages(0, 0)", x.passages(0, 0), 1);
        Check.equal("differentPassages()", x.differentPassages(), 1);
        Check.same("a new object and its text", Check.look(x), Check.look(Check.ring(FIRST)));
        PeatRailway used = new PeatRailway();
        used.advance(99);
        used.pull(2);
        Check.same("a new object after another was used", Check.look(new PeatRailway()), Check.look(x));
        Check.same("an object when another is used", Check.look(x), Check.look(Check.ring(FIRST)));
    }

    private static void row(String what, PeatRailway x, int... lengths) {
        for (int block = 0; block < lengths.length; block++) {
            Check.equal(what + " of block " + block, x.lengthOf(block), lengths[block]);
        }
    }

    private static void newObjectsBuffers() {
        Edge.sentence("Promise 1", "and its buffers are empty.");
        Check.raises("outputByte(0)", Check.INDEX, () -> new PeatRailway().outputByte(0));
        Check.raises("load(1)", Check.INDEX, () -> new PeatRailway().load(1));
        Check.equal("append", new PeatRailway().append(0, 0, 0, 0, 0), 20);
        Check.raises("undo(), nothing being recorded", Check.STATE, () -> new PeatRailway().undo());
        Check.raises("restore(0), nothing being saved", Check.STATE, () -> new PeatRailway().restore(0));
        Check.raises("restore(1), nothing being saved", Check.STATE, () -> new PeatRailway().restore(1));
    }

    private static void appendedBytes() {
        Edge.sentence("Promise 2", "the four bytes of each parameter in order, most significant byte first.");
        for (int place = 0; place < 40; place++) {
            for (String sign : new String[] {"!", "\0", "\u007f", "\u0080", "\u00ff"}) {
                PeatRailway x = new PeatRailway();
                Check.append(x, " ".repeat(place) + sign + " ".repeat(39 - place));
                Check.raises("load(40) with a wrong byte at " + place, Check.ARGUMENT, () -> x.load(40));
                Check.equal("errorOffset() with a wrong byte at " + place, x.errorOffset(), place);
            }
        }
        PeatRailway x = new PeatRailway();
        x.append(0x7261696c, 0x7761793b, 0x626c6f63, 0x6b20390a, 0x20203820);
        Check.equal("load(20) of bytes given as ints", x.load(20), 1);
        Check.equal("lengthOf(0)", x.lengthOf(0), 9);
        Check.equal("depthOf(0)", x.depthOf(0), 8);
    }

    private static void lengthOfBuffer() {
        Edge.sentence("Promise 2", "Returns the new length of the buffer.");
        PeatRailway x = new PeatRailway();
        for (int part = 1; part <= 30; part++) {
            Check.equal("append as number " + part, x.append(-1, -1, -1, -1, -1), 20 * part);
        }
        Check.raises("load(1)", Check.ARGUMENT, () -> x.load(1));
        Check.equal("append after load", x.append(-1, -1, -1, -1, -1), 20);
    }

    private static void fullBuffer() {
        Edge.sentence("Promise 2", "Throws IllegalStateException if the buffer would be longer than 600 bytes");
        PeatRailway x = new PeatRailway();
        Check.append(x, " ".repeat(580));
        Check.equal("append to 600 bytes", x.append(0, 0, 0, 0, 0), 600);
        Check.raises("append to 620 bytes", Check.STATE, () -> x.append(0, 0, 0, 0, 0));
        Check.raises("append to 620 bytes again", Check.STATE, () -> x.append(0, 0, 0, 0, 0));
        Check.raises("load(601), the buffer being full", Check.INDEX, () -> x.load(601));
        Check.raises("append after a load that was refused for its length", Check.STATE, () -> x.append(0, 0, 0, 0, 0));
        Check.raises("load(0)", Check.ARGUMENT, () -> x.load(0));
        Check.equal("append after a load of nothing", x.append(0, 0, 0, 0, 0), 20);
        Edge.refused("append to a full buffer", () -> Edge.busyAndFull(OTHER), Check.STATE,
                y -> y.append(0x21212121, 0x21212121, 0x21212121, 0x21212121, 0x21212121));
        Edge.refused("append to a full buffer without text", () -> Edge.busyAndFull("railway"), Check.STATE,
                y -> y.append(0, 0, 0, 0, 0));
    }

    private static void lengthToParse() {
        Edge.sentence("Promise 3", "the number of bytes to parse, 0 to the length of the buffer");
        Check.raises("load(0) of an empty buffer", Check.ARGUMENT, () -> new PeatRailway().load(0));
        Check.raises("load(-1) of an empty buffer", Check.INDEX, () -> new PeatRailway().load(-1));
        Check.raises("load(1) of an empty buffer", Check.INDEX, () -> new PeatRailway().load(1));
        for (int bytes = 20; bytes <= 600; bytes += 20) {
            String text = "railway" + " ".repeat(bytes - 7);
            PeatRailway x = new PeatRailway();
            Check.append(x, text);
            Check.raises("load(-1) of " + bytes, Check.INDEX, () -> x.load(-1));
            int longer = bytes + 1;
            Check.raises("load(" + longer + ") of " + bytes, Check.INDEX, () -> x.load(longer));
            Check.equal("load of all of " + bytes, x.load(bytes), 0);
            Check.append(x, text);
            Check.equal("load of all but one of " + bytes, x.load(bytes - 1), 0);
            Check.append(x, text);
            Check.raises("load(0) of " + bytes, Check.ARGUMENT, () -> x.load(0));
        }
    }

    private static void firstBytes() {
        Edge.sentence("Promise 3", "Parses the first bytes of the input buffer as a description");
        String text = "railway;block 12 9!!";
        for (int length = 0; length <= 20; length++) {
            PeatRailway x = new PeatRailway();
            Check.append(x, text);
            int first = length;
            boolean right = length == 7 || length == 18;
            Check.same("load(" + length + ")", Check.answer(() -> x.load(first)),
                    length == 7 ? "0" : right ? "1" : "java.lang.IllegalArgumentException");
            // a text that is cut within a word has the error at the word
            int due = right ? PeatRailway.NONE : length < 7 ? 0 : length < 13 ? 8 : Math.min(length, 18);
            Check.equal("errorOffset() after load(" + length + ")", x.errorOffset(), due);
        }
        PeatRailway x = new PeatRailway();
        Check.append(x, "railway;block 12 9");
        Check.raises("load(16), the last number being cut off", Check.ARGUMENT, () -> x.load(16));
        Check.append(x, "railway;block 5 9;ticks 12");
        x.load(25);
        Check.equal("tick(), the number being cut", x.tick(), 1);
    }

    private static void wholeState() {
        Edge.sentence("Promise 3", "replaces the whole state by the result.");
        String full = "railway;block 5 9 bend 5;block 5 9;pull 0;pull 1;train 0 12 5;ticks 1;"
                + "block 5 5;block 4 4 bend 1;train 3 3 3;pull 2;ticks 3";
        PeatRailway x = Check.ring(full);
        x.removeWagons(0);
        x.addWagons(0, 1);
        x.repair(1);
        Check.equal("removedWagons() before", x.removedWagons() > 0, true);
        Check.append(x, "railway");
        Check.equal("load of no blocks", x.load(7), 0);
        Check.same("the state without blocks", Check.look(x), Check.look(Check.ring("railway")));
        String same = "railway;block 5 0;block 5 0;block 5 0;block 5 0;train 0 1 5;train 2 1 5";
        PeatRailway y = Check.ring(full);
        y.removeWagons(0);
        y.addWagons(1, 7);
        Check.load(y, same);
        Check.same("the state with as many blocks and trains", Check.look(y), Check.look(Check.ring(same)));
        Check.equal("tick()", y.tick(), 0);
        Check.equal("differentPassages()", y.differentPassages(), 0);
        Check.equal("isClear(2)", y.isClear(2), false);
        Check.equal("wagonDifference()", y.wagonDifference(), 0);
    }

    private static void discarded() {
        Edge.sentence("Promise 3", "The recorded changes and the saved states are discarded.");
        PeatRailway x = Edge.busy(OTHER);
        x.load(20);
        Check.raises("undo()", Check.STATE, x::undo);
        Check.raises("restore(0)", Check.STATE, () -> x.restore(0));
        Check.raises("restore(1)", Check.STATE, () -> x.restore(1));
        x.advance(1);
        Check.equal("undo() of the one change since", x.undo(), 0);
        x.save(0);
        Check.raises("restore(1), slot 0 being saved again", Check.STATE, () -> x.restore(1));
        Edge.sentence("Promise 3", "The output buffer stays as it is.");
        PeatRailway y = Edge.busy(OTHER);
        String output = Check.output(y);
        y.load(20);
        Check.same("the output", Check.output(y), output);
        PeatRailway z = Check.ring(OTHER);
        Check.raises("outputByte(0), nothing being written before", Check.INDEX, () -> z.outputByte(0));
    }

    private static void emptiedInput() {
        Edge.sentence("Promise 3", "The input buffer is empty afterwards, also if the text has an error.");
        String text = "railway;block 3 3;pull 0;pull 0" + " ".repeat(9);
        for (int length : new int[] {0, 6, 7, 8, 17, 24, 31, 40}) {
            PeatRailway x = new PeatRailway();
            Check.append(x, text);
            String due = length == 7 ? "0" : length == 17 || length == 24 ? "1" : "java.lang.IllegalArgumentException";
            Check.same("load(" + length + ")", Check.answer(() -> x.load(length)), due);
            Check.raises("load(1) after load(" + length + ")", Check.INDEX, () -> x.load(1));
            Check.equal("append after load(" + length + ")", x.append(0x20202020, 0, 0, 0, 0), 20);
        }
        // the old bytes do not stand behind the new ones
        PeatRailway x = new PeatRailway();
        Check.append(x, "!".repeat(600));
        Check.raises("load(600)", Check.ARGUMENT, () -> x.load(600));
        Check.append(x, "railway");
        Check.equal("load(20)", x.load(20), 0);
    }

    private static void loadedCount() {
        Edge.sentence("Promise 3", "Returns the number of blocks.");
        for (int count = 0; count <= 10; count++) {
            PeatRailway x = new PeatRailway();
            Check.equal("load of " + count, Check.load(x, "railway" + ";block 1 0".repeat(count)), count);
            Check.equal("blockCount()", x.blockCount(), count);
        }
    }

    private static void refusedLength() {
        Edge.sentence("Promise 3", "IndexOutOfBoundsException if length is out of range; "
                + "the input buffer and the reported error stay as they are");
        for (int length : new int[] {-1, 21, 600, 601, Integer.MIN_VALUE, Integer.MAX_VALUE}) {
            Edge.refused("load(" + length + ") of 20 bytes", OTHER, Check.INDEX, x -> x.load(length));
            Edge.refused("load(" + length + ") without an error before", () -> withBytes(20), Check.INDEX, x -> x.load(length));
            Edge.refused("load(" + length + ") of no bytes", PeatRailway::new, Check.INDEX, x -> x.load(length));
        }
        for (int length : new int[] {-1, 601, Integer.MIN_VALUE, Integer.MAX_VALUE}) {
            Edge.refused("load(" + length + ") of 600 bytes", () -> Edge.busyAndFull(OTHER), Check.INDEX, x -> x.load(length));
        }
        PeatRailway x = Edge.busy(OTHER);
        Check.raises("load(21)", Check.INDEX, () -> x.load(21));
        Check.equal("errorKind()", x.errorKind(), 2);
        Check.equal("errorOffset()", x.errorOffset(), 14);
        Check.equal("load(20)", x.load(20), 1);
    }

    private static PeatRailway withBytes(int bytes) {
        PeatRailway x = Check.ring(OTHER);
        Check.append(x, "railway" + " ".repeat(bytes - 7));
        return x;
    }

    private static void refusedText() {
        Edge.sentence("Promise 3", "IllegalArgumentException if the text has an error; "
                + "only the input buffer and the reported error change");
        String[] texts = {"", "rail", "railway;block 9 9;train 0 9 5;ticks 9;", "railway;block 9 9;pull 0;ticks 99;block 0",
            "railway;block 1 9;block 1 0;pull 1;train 0 9 5;ticks 1;train 0 1 1", Edge.TEN_BLOCKS + ";block 1 0",
            "railway;block 9 9;danger 0"};
        for (String text : texts) {
            // an object that has had no wrong text before
            PeatRailway fresh = Check.ring(OTHER);
            fresh.save(0);
            fresh.writeTrain(0);
            fresh.addWagons(0, 1);
            String state = Check.lookAtState(fresh);
            Check.append(fresh, text);
            Check.raises("load of \"" + text + "\"", Check.ARGUMENT, () -> fresh.load(text.length()));
            Check.same("the state after \"" + text + "\"", Check.lookAtState(fresh), state);
            Check.same("the output after \"" + text + "\"", Check.output(fresh), "0:4/7 4w");
            Check.equal("undo() after \"" + text + "\"", fresh.undo(), 0);
            Check.equal("wagonsOf(0) before the change", fresh.wagonsOf(0), 4);
            Check.equal("restore(0) after \"" + text + "\"", fresh.restore(0), 2);
            // what may change, the input and the error, is set back to what a busy object has
            Edge.altersNothing("load of \"" + text + "\"", () -> Edge.busy(OTHER), x -> {
                Check.raises("load(0)", Check.ARGUMENT, () -> x.load(0));
                Check.append(x, text);
                Check.raises("the wrong text", Check.ARGUMENT, () -> x.load(text.length()));
                Edge.setErrorAndInput(x);
            });
        }
    }

    private static void errorKinds() {
        Edge.sentence("Promise 4", "Returns 1 to 5; 0 if that call found no error or if no text has been parsed yet.");
        PeatRailway x = new PeatRailway();
        Check.equal("errorKind() before any text", x.errorKind(), 0);
        Check.append(x, "railway");
        Check.raises("load(21)", Check.INDEX, () -> x.load(21));
        Check.equal("errorKind() when no text has been parsed yet", x.errorKind(), 0);
        String[] texts = {"railway;", "railway;block 0", "railway;block 1 1;train 0 1 1;train 0 1 1",
            Edge.TEN_BLOCKS + ";block", "railway;block 1 1;danger 0"};
        x.load(20);
        for (int kind = 1; kind <= 5; kind++) {
            String text = texts[kind - 1];
            Check.append(x, text);
            Check.raises("load of a text of kind " + kind, Check.ARGUMENT, () -> x.load(text.length()));
            Check.equal("errorKind()", x.errorKind(), kind);
            Check.raises("load(-1)", Check.INDEX, () -> x.load(-1));
            Check.equal("errorKind() after a length was refused", x.errorKind(), kind);
        }
        Check.load(x, "railway");
        Check.equal("errorKind() after a right text", x.errorKind(), 0);
        for (int kind = 5; kind >= 1; kind--) {
            String text = texts[kind - 1];
            Check.append(x, text);
            Check.raises("load of a text of kind " + kind, Check.ARGUMENT, () -> x.load(text.length()));
            Check.equal("errorKind() of the last one", x.errorKind(), kind);
        }
    }

    private static void errorOffsets() {
        Edge.sentence("Promise 5", "Returns the offset in bytes; NONE if errorKind() is 0.");
        PeatRailway x = new PeatRailway();
        Check.equal("errorOffset() before any text", x.errorOffset(), PeatRailway.NONE);
        Check.raises("load(0)", Check.ARGUMENT, () -> x.load(0));
        Check.equal("errorOffset(), the smallest", x.errorOffset(), 0);
        Check.append(x, "railway");
        Check.raises("load(21)", Check.INDEX, () -> x.load(21));
        Check.equal("errorOffset() after a length was refused", x.errorOffset(), 0);
        x.load(7);
        Check.equal("errorOffset() after a right text", x.errorOffset(), PeatRailway.NONE);
        Check.append(x, "railway;" + " ".repeat(592));
        Check.raises("load(600)", Check.ARGUMENT, () -> x.load(600));
        Check.equal("errorOffset(), the greatest", x.errorOffset(), 600);
        Check.append(x, "railway" + " ".repeat(592) + "!");
        Check.raises("load(600)", Check.ARGUMENT, () -> x.load(600));
        Check.equal("errorOffset() of the last byte", x.errorOffset(), 599);
        Check.append(x, "railway" + " ".repeat(592) + "!");
        Check.equal("load of all but the last byte", x.load(599), 0);
        Check.equal("errorOffset() after it", x.errorOffset(), PeatRailway.NONE);
    }

    private static void lastOfManyCalls() {
        Edge.sentence("The public face", "An object is used for at most 512 calls after it has been made");
        PeatRailway x = new PeatRailway();
        for (int call = 1; call <= 511; call++) {
            x.advance(1 + call % 10);
        }
        int due = 3 + 511 + 510 / 10 * 45 + 1;
        Check.equal("tick() as call 512", x.tick(), due);
    }
}
