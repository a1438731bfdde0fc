/** Each boundary that promises 53 to 55 name: the output buffer. */
public final class EdgesOutputTest {
    /** A train of twelve wagons that leaves one wagon in each of nine blocks, once nine ticks have passed. */
    private static final String LOSSY = "railway" + ";block 1 9".repeat(10)
            + ";train 0 12 5;pull 1;pull 2;pull 3;pull 4;pull 5;pull 6;pull 7;pull 8;pull 9";

    public static void main(String[] args) {
        ring();
        ringReplaces();
        train();
        noSuchTrain();
        trainReplaces();
        bytes();
        noSuchByte();
        nothingElseChanges();
        Edge.end(53, 55);
    }

    private static void ring() {
        Edge.sentence("Promise 53", "for each block a plus sign (byte 43) if its signal is clear, otherwise a hyphen (byte 45); "
                + "then the number of the train in it, or an underscore (byte 95); and for each lost wagon a letter w.");
        writes(Edge.NO_BLOCKS, "");
        writes(Edge.ONE_BLOCK, "-_");
        writes(Edge.ONE_BLOCK + ";pull 0", "+_");
        writes(Edge.ONE_BLOCK + ";train 0 1 1", "-0");
        writes(Edge.ONE_BLOCK + ";pull 0;train 0 1 1", "+0");
        writes(Edge.TEN_BLOCKS, "-_-_-_-_-_-_-_-_-_-_");
        writes(Edge.TEN_BLOCKS + ";pull 0;pull 9;train 9 1 1;train 0 1 1;train 4 1 1;train 5 1 1;train 6 1 1",
                "+1-_-_-_-2-3-4-_-_+0");
        writes(LOSSY, "-0+_+_+_+_+_+_+_+_+_");
        writes(LOSSY + ";ticks 1", "-_w-0+_+_+_+_+_+_+_+_");
        writes(LOSSY + ";ticks 9", "-_w-_w-_w-_w-_w-_w-_w-_w-_w-0");
        writes("railway;block 1 9;pull 0;block 1 0;train 0 2 5;pull 1;ticks 1", "+_w-0");
        writes(Edge.FIVE_TRAINS, "-0-1-2-3-4-_");
    }

    private static void writes(String text, String due) {
        PeatRailway x = Check.ring(text);
        Check.equal("writeRing() of " + due, x.writeRing(), due.length());
        Check.same("the output", Check.output(x), due);
    }

    private static void ringReplaces() {
        Edge.sentence("Promise 53", "Writes the ring to the output buffer and replaces its content");
        PeatRailway x = Check.ring(LOSSY + ";ticks 9");
        Check.equal("writeRing(), the longest", x.writeRing(), 29);
        for (int block = 0; block <= 8; block++) {
            x.removeWagons(block);
            Check.equal("writeRing() after removeWagons(" + block + ")", x.writeRing(), 28 - block);
            Check.equal("the length of the output", Check.output(x).length(), 28 - block);
        }
        Check.load(x, Edge.NO_BLOCKS);
        Check.equal("the output stays at load", Check.output(x).length(), 20);
        Check.equal("writeRing() without blocks", x.writeRing(), 0);
        Check.raises("outputByte(0)", Check.INDEX, () -> x.outputByte(0));
    }

    private static void train() {
        Edge.sentence("Promise 54", "the block, a colon (byte 58), the position, a slash (byte 47), the length of the block, "
                + "a space (byte 32), the number of wagons and a letter w.");
        writesTrain("railway;block 1 0;train 0 1 1", 0, "0:0/1 1w");
        writesTrain("railway;block 9 0;train 0 9 1;ticks 9", 0, "0:9/9 9w");
        writesTrain("railway;block 10 0;train 0 9 1;ticks 9", 0, "0:9/10 9w");
        writesTrain("railway;block 10 0;train 0 10 1;ticks 10", 0, "0:10/10 10w");
        writesTrain("railway;block 20 0;train 0 12 1;ticks 19", 0, "0:19/20 12w");
        writesTrain("railway" + ";block 20 0".repeat(10) + ";train 8 11 1;train 9 12 5;ticks 99", 1, "9:20/20 12w");
        writesTrain(Edge.FIVE_TRAINS, 4, "4:0/5 5w");
        writesTrain("railway;block 1 9;block 1 0;train 0 2 5;pull 1;ticks 1", 0, "1:0/1 1w");
    }

    private static void writesTrain(String text, int train, String due) {
        PeatRailway x = Check.ring(text);
        Check.equal("writeTrain(" + train + ") of " + due, x.writeTrain(train), due.length());
        Check.same("the output", Check.output(x), due);
    }

    private static void noSuchTrain() {
        Edge.noSuchTrain(54, "writeTrain", PeatRailway::writeTrain);
    }

    private static void trainReplaces() {
        Edge.sentence("Promise 54", "Writes a train to the output buffer and replaces its content");
        PeatRailway x = Check.ring(LOSSY + ";ticks 9");
        x.writeRing();
        Check.equal("writeTrain(0) after the longest ring", x.writeTrain(0), 8);
        Check.same("the output", Check.output(x), "9:0/1 3w");
        x.addWagons(0, 9);
        Check.equal("writeTrain(0) of a longer text", x.writeTrain(0), 9);
        x.undo();
        Check.equal("writeTrain(0) of the shorter one again", x.writeTrain(0), 8);
        Check.raises("outputByte(8)", Check.INDEX, () -> x.outputByte(8));
        Check.raises("writeTrain(1)", Check.INDEX, () -> x.writeTrain(1));
        Check.same("the output after a refused one", Check.output(x), "9:0/1 3w");
    }

    private static void bytes() {
        Edge.sentence("Promise 55", "Returns the byte.");
        PeatRailway x = Check.ring("railway;block 20 0;pull 0;block 1 0;block 20 9;block 1 0;train 0 12 5;train 2 3 5;pull 3;ticks 4");
        int[] ring = {43, 48, 45, 95, 45, 95, 119, 45, 49};
        Check.equal("writeRing()", x.writeRing(), ring.length);
        for (int index = 0; index < ring.length; index++) {
            Check.equal("outputByte(" + index + ") of the ring", x.outputByte(index), ring[index]);
        }
        int[] train = {48, 58, 50, 48, 47, 50, 48, 32, 49, 50, 119};
        Check.equal("writeTrain(0)", x.writeTrain(0), train.length);
        for (int index = 0; index < train.length; index++) {
            Check.equal("outputByte(" + index + ") of the train", x.outputByte(index), train[index]);
        }
    }

    private static void noSuchByte() {
        Edge.sentence("Promise 55", "Throws IndexOutOfBoundsException if there is no such byte");
        for (int index : new int[] {0, -1, 1, Integer.MIN_VALUE, Integer.MAX_VALUE}) {
            Edge.refused("outputByte(" + index + ") of a new object", PeatRailway::new, Check.INDEX, x -> x.outputByte(index));
        }
        String[] texts = {Edge.NO_BLOCKS, Edge.ONE_BLOCK, Edge.FIVE_TRAINS, LOSSY};
        for (String text : texts) {
            int length = Edge.busy(text).writeRing();
            for (int index : new int[] {-1, length, length + 1, 64, Integer.MIN_VALUE, Integer.MAX_VALUE}) {
                Edge.refused("outputByte(" + index + ") of " + length, text, Check.INDEX, x -> x.outputByte(index));
            }
            if (length > 0) {
                Check.equal("outputByte(0), the first", Edge.busy(text).outputByte(0), 45);
                Check.equal("outputByte of the last is there", Edge.busy(text).outputByte(length - 1) > 0, true);
            }
        }
        PeatRailway longest = Check.ring(LOSSY + ";ticks 9");
        longest.writeRing();
        Check.equal("outputByte(28)", longest.outputByte(28), 48);
        Check.raises("outputByte(29)", Check.INDEX, () -> longest.outputByte(29));
    }

    private static void nothingElseChanges() {
        Edge.sentence("Promise 55", "Returns a byte of the output buffer.");
        Edge.altersNothing("outputByte(0)", () -> Edge.busy(LOSSY), x -> x.outputByte(0));
        Edge.sentence("Promise 53", "Writes the ring to the output buffer");
        Edge.altersNothing("writeRing() of what is written", () -> Edge.busy(LOSSY), PeatRailway::writeRing);
    }
}
