import java.nio.charset.StandardCharsets;
import java.util.function.IntSupplier;

/** What the tests share: counting wrong answers, loading texts, and looking at a whole object. */
final class Check {
    private static int wrong = 0;
    private static int checks = 0;
    /** Stands before the name of each answer that is wrong: the sentence of the document that is tested. */
    static String under = "";

    private Check() {
    }

    static void equal(String what, long got, long due) {
        same(what, Long.toString(got), Long.toString(due));
    }

    static void equal(String what, boolean got, boolean due) {
        same(what, Boolean.toString(got), Boolean.toString(due));
    }

    /** Doubles and floats must be due to the last bit. */
    static void exact(String what, double got, double due) {
        checks++;
        if (Double.doubleToRawLongBits(got) != Double.doubleToRawLongBits(due)) {
            complain(what, Double.toString(got), Double.toString(due));
        }
    }

    static void same(String what, String got, String due) {
        checks++;
        if (!got.equals(due)) {
            complain(what, got, due);
        }
    }

    private static void complain(String what, String got, String due) {
        wrong++;
        if (wrong <= 50) {
            System.out.println(under + what + " answered " + got + ", due is " + due);
        }
    }

    /** The call must throw just this exception. */
    static void raises(String what, Class<?> due, Runnable call) {
        String got = "nothing";
        try {
            call.run();
        } catch (RuntimeException e) {
            got = e.getClass().getName();
        }
        same(what + " throws", got, due.getName());
    }

    /** What the call answers, or the name of the exception that it throws. */
    static String answer(IntSupplier call) {
        try {
            return Integer.toString(call.getAsInt());
        } catch (RuntimeException e) {
            return e.getClass().getName();
        }
    }

    static final Class<?> INDEX = IndexOutOfBoundsException.class;
    static final Class<?> ARGUMENT = IllegalArgumentException.class;
    static final Class<?> STATE = IllegalStateException.class;

    /** Fills the input buffer with the text, and with spaces up to a multiple of 20 bytes. */
    static void append(PeatRailway x, String text) {
        byte[] bytes = text.getBytes(StandardCharsets.ISO_8859_1);
        int[] fives = new int[5];
        for (int start = 0; start < bytes.length; start += 20) {
            for (int word = 0; word < 5; word++) {
                fives[word] = 0;
                for (int index = 0; index < 4; index++) {
                    int at = start + 4 * word + index;
                    fives[word] = fives[word] << 8 | (at < bytes.length ? bytes[at] & 255 : 32);
                }
            }
            x.append(fives[0], fives[1], fives[2], fives[3], fives[4]);
        }
    }

    static int load(PeatRailway x, String text) {
        append(x, text);
        return x.load(text.length());
    }

    /** A new object with this text loaded, which must be right. */
    static PeatRailway ring(String text) {
        PeatRailway x = new PeatRailway();
        load(x, text);
        return x;
    }

    /** The text must be refused with this error, and nothing but the error may change. */
    static void error(String text, int kind, int offset) {
        String what = "load of \"" + text + "\"";
        PeatRailway x = new PeatRailway();
        x.save(1);
        x.setTopSpeed(0, 3);
        x.writeTrain(0);
        append(x, text);
        String before = lookAtState(x) + output(x);
        raises(what, ARGUMENT, () -> x.load(text.length()));
        equal(what + ": errorKind()", x.errorKind(), kind);
        equal(what + ": errorOffset()", x.errorOffset(), offset);
        same(what + ": what stands after it", lookAtState(x) + output(x), before);
        raises(what + ": the buffer is empty, load(1)", INDEX, () -> x.load(1));
        equal(what + ": the change can be undone", x.undo(), 0);
        equal(what + ": the slot is still full", x.restore(1), 3);
    }

    /** The text must be right. */
    static void right(String text, int blocks) {
        String what = "load of \"" + text + "\"";
        PeatRailway x = new PeatRailway();
        append(x, text);
        int got = -1;
        try {
            got = x.load(text.length());
        } catch (IllegalArgumentException e) {
            got = -100 * x.errorKind() - x.errorOffset();
        }
        equal(what, got, blocks);
        equal(what + ": errorKind()", x.errorKind(), 0);
        equal(what + ": errorOffset()", x.errorOffset(), PeatRailway.NONE);
    }

    static String output(PeatRailway x) {
        StringBuilder text = new StringBuilder();
        try {
            for (int index = 0; index < 10000; index++) {
                text.append((char) x.outputByte(index));
            }
        } catch (IndexOutOfBoundsException e) {
            return text.toString();
        }
        return "output without end";
    }

    /** Every answer that changes nothing, but for the length of the input buffer. */
    static String look(PeatRailway x) {
        return lookAtState(x) + " error " + x.errorKind() + " at " + x.errorOffset() + " output " + output(x);
    }

    static String lookAtState(PeatRailway x) {
        StringBuilder all = new StringBuilder();
        all.append("tick ").append(x.tick());
        for (int block = 0; block < x.blockCount(); block++) {
            all.append(" block ").append(x.lengthOf(block)).append(' ').append(x.depthOf(block))
                    .append(' ').append(x.isBend(block)).append(' ').append(x.limitOf(block))
                    .append(' ').append(x.isClear(block)).append(' ').append(x.trainIn(block))
                    .append(' ').append(x.lostIn(block)).append(' ').append(x.departuresFrom(block))
                    .append(' ').append(x.obstacle(block));
        }
        for (int train = 0; train < x.trainCount(); train++) {
            all.append(" train ").append(x.blockOf(train)).append(' ').append(x.positionOf(train))
                    .append(' ').append(x.wagonsOf(train)).append(' ').append(x.topSpeedOf(train))
                    .append(' ').append(x.speedOf(train)).append(' ').append(x.waitsOf(train));
            for (int block = 0; block < x.blockCount(); block++) {
                all.append(' ').append(x.passages(train, block));
            }
            all.append(' ').append(x.ticksToEnd(train)).append(' ').append(x.trainAhead(train))
                    .append(' ').append(x.clearBlocksAhead(train)).append(' ').append(x.canEnter(train))
                    .append(' ').append(x.ticksUntilWait(train)).append(' ').append(x.blockAfter(train, 7));
        }
        all.append(" sums ").append(x.freeLevers()).append(' ').append(x.emptyBlocks()).append(' ')
                .append(x.deepestBlock()).append(' ').append(x.differentDepths()).append(' ')
                .append(x.differentPassages()).append(' ').append(x.totalWagons()).append(' ')
                .append(x.lostWagons()).append(' ').append(x.removedWagons()).append(' ')
                .append(x.sharedBlocks()).append(' ').append(x.wagonDifference()).append(' ')
                .append(x.meanDepth()).append(' ').append(x.waitShare());
        return all.toString();
    }

    /** Ends the test: exit code 1 if an answer was wrong or nothing was checked. */
    static void end() {
        System.out.println(checks + " checks, " + wrong + " wrong");
        if (wrong != 0 || checks == 0) {
            System.exit(1);
        }
    }
}
