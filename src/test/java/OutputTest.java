/** Promises 53 to 55: the output buffer. */
public final class OutputTest {
    public static void main(String[] args) {
        ring();
        train();
        bytes();
        Check.end();
    }

    private static void ring() {
        written(Check.ring("railway"), "");
        written(new PeatRailway(), "-_-0-_-1");
        written(Check.ring("railway;block 5 9;block 5 9;block 5 0;block 5 0;train 0 5 5;pull 1;ticks 1;pull 2;ticks 1;pull 3"),
                "-_w-_w-0+_");
        written(Check.ring("railway;block 5 9;pull 0;train 0 5 5"), "+0");
        written(Check.ring("railway;block 5 9;pull 0;block 5 0;train 0 5 5;pull 1;ticks 1"), "+_w-0");
        written(Check.ring("railway;block 5 9;block 5 0;block 5 0;block 5 0;block 5 0;"
                + "train 4 1 1;train 3 1 1;train 2 1 1;train 1 1 1;train 0 1 1"), "-4-3-2-1-0");
        written(Check.ring("railway" + ";block 5 0".repeat(10)), "-_".repeat(10));
    }

    private static void written(PeatRailway x, String due) {
        String state = Check.lookAtState(x);
        Check.equal("writeRing() of " + due, x.writeRing(), due.length());
        Check.same("the output", Check.output(x), due);
        Check.same("the state", Check.lookAtState(x), state);
    }

    private static void train() {
        PeatRailway x = Check.ring("railway" + ";block 20 0".repeat(9) + ";block 9 8;train 9 12 5;train 3 1 1");
        Check.equal("writeTrain(0)", x.writeTrain(0), 9);
        Check.same("the output", Check.output(x), "9:0/9 12w");
        Check.equal("writeTrain(1)", x.writeTrain(1), 9);
        Check.same("the output", Check.output(x), "3:0/20 1w");
        x.advance(19);
        x.addWagons(1, 9);
        Check.equal("writeTrain(1)", x.writeTrain(1), 11);
        Check.same("the output", Check.output(x), "3:19/20 10w");
        x.advance(1);
        x.writeTrain(1);
        Check.same("the output", Check.output(x), "3:20/20 10w");
        for (int train : new int[] {-1, 2, 5, Integer.MIN_VALUE, Integer.MAX_VALUE}) {
            Check.raises("writeTrain(" + train + ")", Check.INDEX, () -> x.writeTrain(train));
        }
        x.writeRing();
        Check.same("the ring replaces it", Check.output(x), "-_-_-_-1-_-_-_-_-_-0");
        x.writeTrain(0);
        Check.same("the train replaces it", Check.output(x), "9:9/9 12w");
    }

    private static void bytes() {
        PeatRailway x = new PeatRailway();
        Check.raises("outputByte(0) of nothing", Check.INDEX, () -> x.outputByte(0));
        x.writeTrain(1);
        Check.equal("outputByte(0)", x.outputByte(0), 51);
        Check.equal("outputByte(1)", x.outputByte(1), 58);
        Check.equal("outputByte(3)", x.outputByte(3), 47);
        Check.equal("outputByte(5)", x.outputByte(5), 32);
        Check.equal("outputByte(7)", x.outputByte(7), 119);
        Check.raises("outputByte(8)", Check.INDEX, () -> x.outputByte(8));
        Check.raises("outputByte(-1)", Check.INDEX, () -> x.outputByte(-1));
        Check.raises("outputByte(the least int)", Check.INDEX, () -> x.outputByte(Integer.MIN_VALUE));
        Check.raises("outputByte(the greatest int)", Check.INDEX, () -> x.outputByte(Integer.MAX_VALUE));
        x.pull(2);
        x.writeRing();
        Check.equal("outputByte(0), at danger", x.outputByte(0), 45);
        Check.equal("outputByte(1), no train", x.outputByte(1), 95);
        Check.equal("outputByte(4), clear", x.outputByte(4), 43);
        Check.equal("outputByte(7), a train", x.outputByte(7), 49);
        // a shorter text leaves no byte of a longer one
        Check.load(x, "railway;block 5 0");
        Check.same("the output stays at load", Check.output(x), "-_-0+_-1");
        x.writeRing();
        Check.same("the shorter one", Check.output(x), "-_");
        Check.raises("outputByte(2)", Check.INDEX, () -> x.outputByte(2));
        Check.raises("writeTrain(0)", Check.INDEX, () -> x.writeTrain(0));
        Check.same("the output stays when refused", Check.output(x), "-_");
    }
}
