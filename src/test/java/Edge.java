import java.util.TreeSet;
import java.util.function.Consumer;
import java.util.function.ObjIntConsumer;
import java.util.function.Supplier;

/** What the tests of boundaries share: the sentence in hand, and calls that must alter nothing at all. */
final class Edge {
    static final String NO_BLOCKS = "railway";
    static final String ONE_BLOCK = "railway;block 5 3";
    static final String TEN_BLOCKS = "railway" + ";block 1 0".repeat(10);
    static final String NO_TRAINS = "railway;block 5 0;block 5 0";
    static final String ONE_TRAIN = "railway;block 5 0;block 5 0;train 1 2 3";
    static final String FIVE_TRAINS = "railway" + ";block 5 0".repeat(6)
            + ";train 0 1 1;train 1 2 2;train 2 3 3;train 3 4 4;train 4 5 5";

    private static final TreeSet<String> PLACES = new TreeSet<>();

    private Edge() {
    }

    /** The checks from here on hold this sentence of the document; the place is a promise or a part of "Terms". */
    static void sentence(String place, String words) {
        PLACES.add(place);
        Check.under = place + " (" + words + "): ";
    }

    /** Ends the test; each promise from first to last must have had a sentence. */
    static void end(int first, int last) {
        Check.under = "";
        for (int promise = first; promise <= last; promise++) {
            Check.equal("promise " + promise + " has a test here", PLACES.contains("Promise " + promise), true);
        }
        Check.end();
    }

    /** The text must have this error at the byte behind the mark ^, which does not belong to it. */
    static void wrong(int kind, String marked) {
        int offset = marked.indexOf('^');
        Check.error(marked.substring(0, offset) + marked.substring(offset + 1), kind, offset);
    }

    /**
     * An object with this state in which nothing is empty: ten changes can be undone, each slot holds another
     * state, there are bytes in both buffers, and the last text had an error.
     */
    static PeatRailway busy(String text) {
        PeatRailway x = Check.ring(text);
        setErrorAndInput(x);
        x.save(0);
        x.advance(1);
        x.save(1);
        for (int change = 2; change <= 10; change++) {
            x.restore(0);
        }
        x.writeRing();
        return x;
    }

    /** Gives an object with an empty input buffer the error of a wrong text, and then 20 bytes of a right one. */
    static void setErrorAndInput(PeatRailway x) {
        Check.append(x, "railway;block 0");
        Check.raises("a wrong text", Check.ARGUMENT, () -> x.load(15));
        Check.append(x, "railway;block 3 3   ");
    }

    /** As busy, at the last tick. */
    static PeatRailway busyAtLastTick(String text) {
        PeatRailway x = busy(text);
        for (int left = 9999 - x.tick(); left > 0; left -= 99) {
            x.advance(Math.min(left, 99));
        }
        return x;
    }

    /** As busy, with an input buffer of 600 bytes. */
    static PeatRailway busyAndFull(String text) {
        PeatRailway x = busy(text);
        Check.append(x, " ".repeat(580));
        return x;
    }

    /** The call throws just this, and an object that has had it can't be told from one that has not. */
    static void refused(String what, Supplier<PeatRailway> maker, Class<?> due, Consumer<PeatRailway> call) {
        Consumer<PeatRailway> raised = x -> Check.raises(what, due, () -> call.accept(x));
        altersNothing(what, maker, raised);
    }

    static void refused(String what, String text, Class<?> due, Consumer<PeatRailway> call) {
        refused(what, () -> busy(text), due, call);
    }

    /** The call answers, and an object that has had it can't be told from one that has not. */
    static void altersNothing(String what, Supplier<PeatRailway> maker, Consumer<PeatRailway> call) {
        Supplier<PeatRailway> called = () -> {
            PeatRailway x = maker.get();
            call.accept(x);
            return x;
        };
        Check.same(what + ": all that can be seen after it", all(called), all(maker));
    }

    /** Rings of none, one, four and ten blocks: just the blocks from 0 to the last are there. */
    static void noSuchBlock(int promise, String call, ObjIntConsumer<PeatRailway> made) {
        sentence("Promise " + promise, call + " throws IndexOutOfBoundsException if there is no such block");
        noSuchBlock(call, made);
        for (String text : new String[] {ONE_BLOCK, TEN_BLOCKS}) {
            PeatRailway x = Check.ring(text);
            made.accept(x, 0);
            made.accept(x, x.blockCount() - 1);
        }
    }

    /** As above, for calls that may be refused for other reasons too. */
    static void noSuchBlock(String call, ObjIntConsumer<PeatRailway> made) {
        String four = "railway;block 6 2;block 4 7 bend 3;block 8 0;block 5 8;train 0 5 4";
        for (String text : new String[] {NO_BLOCKS, ONE_BLOCK, four, TEN_BLOCKS}) {
            int count = Check.ring(text).blockCount();
            for (int block : new int[] {-1, count, Integer.MIN_VALUE, Integer.MAX_VALUE}) {
                refused(call + " of block " + block + " of " + count, text, Check.INDEX, x -> made.accept(x, block));
            }
        }
        // the blocks of an earlier text are gone
        PeatRailway smaller = Check.ring(TEN_BLOCKS);
        Check.load(smaller, ONE_BLOCK);
        Check.raises(call + " of block 1, which a text before had", Check.INDEX, () -> made.accept(smaller, 1));
    }

    /** Rings with no train, one and five: just the trains from 0 to the last are there. */
    static void noSuchTrain(int promise, String call, ObjIntConsumer<PeatRailway> made) {
        sentence("Promise " + promise, call + " throws IndexOutOfBoundsException if there is no such train");
        noSuchTrain(call, made);
        for (String text : new String[] {ONE_TRAIN, FIVE_TRAINS}) {
            PeatRailway x = Check.ring(text);
            made.accept(x, 0);
            made.accept(x, x.trainCount() - 1);
        }
    }

    /** As above, for calls that may be refused for other reasons too. */
    static void noSuchTrain(String call, ObjIntConsumer<PeatRailway> made) {
        for (String text : new String[] {NO_BLOCKS, NO_TRAINS, ONE_TRAIN, FIVE_TRAINS}) {
            int count = Check.ring(text).trainCount();
            for (int train : new int[] {-1, count, Integer.MIN_VALUE, Integer.MAX_VALUE}) {
                refused(call + " of train " + train + " of " + count, text, Check.INDEX, x -> made.accept(x, train));
            }
        }
        PeatRailway fewer = Check.ring(FIVE_TRAINS);
        Check.load(fewer, ONE_TRAIN);
        Check.raises(call + " of train 1, which a text before had", Check.INDEX, () -> made.accept(fewer, 1));
    }

    /**
     * All that such an object tells, down to what is in its buffers, its slots and its history. Each look takes an
     * object of its own, as none is promised to answer for more than 512 calls.
     */
    private static String all(Supplier<PeatRailway> maker) {
        StringBuilder all = new StringBuilder(Check.look(maker.get()));
        for (int times = 1; times <= 11; times++) {
            PeatRailway x = maker.get();
            all.append("\nundo");
            for (int undone = 1; undone <= times; undone++) {
                all.append(' ').append(Check.answer(x::undo));
            }
            all.append(' ').append(Check.lookAtState(x));
        }
        for (int slot = 0; slot < 2; slot++) {
            PeatRailway x = maker.get();
            int which = slot;
            all.append("\nrestore ").append(Check.answer(() -> x.restore(which))).append(' ').append(Check.lookAtState(x));
        }
        PeatRailway x = maker.get();
        String length = Check.answer(() -> x.append(0x20202020, 0x20202020, 0x20202020, 0x20202020, 0x20202020));
        int bytes = length.matches("[0-9]+") ? Integer.parseInt(length) : 600;
        all.append("\nappend ").append(length).append(" load ").append(Check.answer(() -> x.load(bytes)));
        return all.append(' ').append(Check.look(x)).toString();
    }
}
