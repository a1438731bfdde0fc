import java.nio.charset.StandardCharsets;
import java.util.ArrayDeque;
import java.util.ArrayList;
import java.util.Deque;
import java.util.List;
import java.util.Map;
import java.util.TreeMap;
import java.util.TreeSet;
import java.util.regex.Matcher;
import java.util.regex.Pattern;

/** The document once more, as plainly as the Java library allows, to be compared with the class. */
final class Model {
    static final class Block {
        int length;
        int depth;
        Integer bend;
        boolean clear;
        int lost;
        int departures;

        int limit() {
            return bend == null ? 5 : bend;
        }
    }

    static final class Train {
        int block;
        int position;
        int wagons;
        int top;
        int waits;
        Map<Integer, Integer> left = new TreeMap<>();
    }

    /** What undo restores. */
    static final class Ring {
        int tick;
        int removed;
        List<Block> blocks = new ArrayList<>();
        List<Train> trains = new ArrayList<>();

        Ring copy() {
            Ring other = new Ring();
            other.tick = tick;
            other.removed = removed;
            for (Block b : blocks) {
                Block c = new Block();
                c.length = b.length;
                c.depth = b.depth;
                c.bend = b.bend;
                c.clear = b.clear;
                c.lost = b.lost;
                c.departures = b.departures;
                other.blocks.add(c);
            }
            for (Train t : trains) {
                Train u = new Train();
                u.block = t.block;
                u.position = t.position;
                u.wagons = t.wagons;
                u.top = t.top;
                u.waits = t.waits;
                u.left.putAll(t.left);
                other.trains.add(u);
            }
            return other;
        }

        int in(int block) {
            for (int i = 0; i < trains.size(); i++) {
                if (trains.get(i).block == block) {
                    return i;
                }
            }
            return -1;
        }

        int after(int block) {
            return (block + 1) % blocks.size();
        }

        boolean occupied(int block) {
            return in(block) >= 0 || blocks.get(block).lost >= 1;
        }

        int obstacle(int block) {
            Block b = blocks.get(block);
            if (in(block) >= 0) {
                return 1;
            } else if (b.lost > 0) {
                return 2;
            } else if (b.clear) {
                return 3;
            } else if (b.bend != null && occupied(after(block))) {
                return 4;
            }
            return 0;
        }

        int speed(Train t) {
            return Math.min(t.top, blocks.get(t.block).limit());
        }

        boolean canEnter(Train t) {
            int next = after(t.block);
            return blocks.get(next).clear && !occupied(next);
        }

        int pass() {
            int entered = 0;
            tick++;
            for (Train t : trains) {
                Block b = blocks.get(t.block);
                int speed = speed(t);
                t.position += speed;
                if (t.position > b.length) {
                    t.position = b.length;
                }
                if (t.position != b.length) {
                    continue;
                }
                if (!canEnter(t)) {
                    t.waits++;
                    continue;
                }
                entered++;
                if (b.depth >= 7 && speed >= 3 && t.wagons > 1) {
                    t.wagons--;
                    b.lost++;
                }
                b.depth = Math.min(9, b.depth + 1 + t.wagons / 4);
                b.departures++;
                t.left.merge(t.block, 1, Integer::sum);
                t.block = after(t.block);
                t.position = 0;
                blocks.get(t.block).clear = false;
            }
            return entered;
        }

        int clearSignals() {
            return (int) blocks.stream().filter(b -> b.clear).count();
        }

        int wagons() {
            return trains.stream().mapToInt(t -> t.wagons).sum();
        }

        int lost() {
            return blocks.stream().mapToInt(b -> b.lost).sum();
        }
    }

    /** An error of a text. */
    static final class Wrong extends Exception {
        private static final long serialVersionUID = 1;
        final int kind;
        final int offset;

        Wrong(int kind, int offset) {
            super("kind " + kind + " at " + offset);
            this.kind = kind;
            this.offset = offset;
        }
    }

    /** Reads a text from the left; a token is a match of the pattern that is not blank. */
    static final class Reader {
        private static final Pattern PIECE = Pattern.compile("[a-z]+|[0-9]+|[ \n]+|.", Pattern.DOTALL);
        private final List<String> tokens = new ArrayList<>();
        private final List<Integer> starts = new ArrayList<>();
        private int at = 0;
        private final Ring ring = new Ring();

        Reader(String text) {
            Matcher m = PIECE.matcher(text);
            boolean glue = false;
            while (m.find()) {
                String piece = m.group();
                boolean wordOrNumber = piece.matches("[a-z]+|[0-9]+");
                if (piece.isBlank() && piece.matches("[ \n]+")) {
                    glue = false;
                    continue;
                }
                tokens.add(glue && wordOrNumber ? "?" : piece);
                starts.add(m.start());
                glue = wordOrNumber;
            }
            tokens.add("");
            starts.add(text.length());
        }

        private void wrong(int kind, int token) throws Wrong {
            throw new Wrong(kind, starts.get(token));
        }

        private boolean next(String word) {
            if (tokens.get(at).equals(word)) {
                at++;
                return true;
            }
            return false;
        }

        private int number(int low, int high) throws Wrong {
            if (!tokens.get(at).matches("[0-9]{1,3}")) {
                wrong(1, at);
            }
            int value = Integer.parseInt(tokens.get(at));
            if (value < low || value > high) {
                wrong(2, at);
            }
            at++;
            return value;
        }

        private int block() throws Wrong {
            return number(0, ring.blocks.size() - 1);
        }

        Ring read() throws Wrong {
            if (!next("railway")) {
                wrong(1, at);
            }
            while (!tokens.get(at).isEmpty()) {
                if (!next(";")) {
                    wrong(1, at);
                }
                line();
            }
            return ring;
        }

        private void line() throws Wrong {
            switch (tokens.get(at++)) {
                case "block":
                    if (ring.blocks.size() == 10) {
                        wrong(4, at - 1);
                    }
                    Block b = new Block();
                    b.length = number(1, 20);
                    b.depth = number(0, 9);
                    b.bend = next("bend") ? Integer.valueOf(number(1, 5)) : null;
                    ring.blocks.add(b);
                    break;
                case "train":
                    if (ring.trains.size() == 5) {
                        wrong(4, at - 1);
                    }
                    Train t = new Train();
                    t.block = block();
                    if (ring.occupied(t.block)) {
                        wrong(3, at - 1);
                    }
                    t.wagons = number(1, 12);
                    t.top = number(1, 5);
                    ring.trains.add(t);
                    break;
                case "pull":
                    int pulled = block();
                    if (ring.obstacle(pulled) != 0) {
                        wrong(5, at - 1);
                    }
                    ring.blocks.get(pulled).clear = true;
                    break;
                case "danger":
                    int set = block();
                    if (!ring.blocks.get(set).clear) {
                        wrong(5, at - 1);
                    }
                    ring.blocks.get(set).clear = false;
                    break;
                case "repair":
                    int mended = block();
                    if (ring.in(mended) >= 0) {
                        wrong(5, at - 1);
                    }
                    ring.blocks.get(mended).depth = 0;
                    break;
                case "ticks":
                    for (int n = number(1, Math.min(99, 9999 - ring.tick)); n > 0; n--) {
                        ring.pass();
                    }
                    break;
                default:
                    wrong(1, at - 1);
            }
        }
    }

    Ring now;
    private Deque<Ring> past = new ArrayDeque<>();
    private final Ring[] saved = new Ring[2];
    private final StringBuilder input = new StringBuilder();
    private String output = "";
    private int errorKind = 0;
    private int errorOffset = -1;

    Model() {
        try {
            now = new Reader("railway; block 6 2; block 4 7 bend 3; block 8 0; block 5 8; train 0 5 4; "
                    + "train 3 8 5; pull 1; ticks 3").read();
        } catch (Wrong e) {
            throw new AssertionError(e);
        }
    }

    private Block block(int block) {
        if (block < 0 || block >= now.blocks.size()) {
            throw new IndexOutOfBoundsException();
        }
        return now.blocks.get(block);
    }

    private Train train(int train) {
        if (train < 0 || train >= now.trains.size()) {
            throw new IndexOutOfBoundsException();
        }
        return now.trains.get(train);
    }

    private static void argument(boolean good) {
        if (!good) {
            throw new IllegalArgumentException();
        }
    }

    private static void state(boolean good) {
        if (!good) {
            throw new IllegalStateException();
        }
    }

    private static void index(boolean good) {
        if (!good) {
            throw new IndexOutOfBoundsException();
        }
    }

    private void record() {
        past.addLast(now.copy());
        if (past.size() > 10) {
            past.removeFirst();
        }
    }

    int append(int[] five) {
        state(input.length() + 20 <= 600);
        for (int word : five) {
            byte[] bytes = java.nio.ByteBuffer.allocate(4).putInt(word).array();
            input.append(new String(bytes, StandardCharsets.ISO_8859_1));
        }
        return input.length();
    }

    int load(int length) {
        index(length >= 0 && length <= input.length());
        String text = input.substring(0, length);
        input.setLength(0);
        try {
            now = new Reader(text).read();
        } catch (Wrong e) {
            errorKind = e.kind;
            errorOffset = e.offset;
            throw new IllegalArgumentException();
        }
        errorKind = 0;
        errorOffset = -1;
        past.clear();
        saved[0] = null;
        saved[1] = null;
        return now.blocks.size();
    }

    /** The answer to a call without a change, by its name. */
    Object ask(String call, int a, int b) {
        switch (call) {
            case "errorKind": return errorKind;
            case "errorOffset": return errorOffset;
            case "tick": return now.tick;
            case "blockCount": return now.blocks.size();
            case "lengthOf": return block(a).length;
            case "depthOf": return block(a).depth;
            case "isBend": return block(a).bend != null;
            case "limitOf": return block(a).limit();
            case "isClear": return block(a).clear;
            case "trainIn": block(a); return now.in(a);
            case "lostIn": return block(a).lost;
            case "departuresFrom": return block(a).departures;
            case "obstacle": block(a); return now.obstacle(a);
            case "freeLevers": return count(true);
            case "emptyBlocks": return count(false);
            case "deepestBlock": return deepest();
            case "differentDepths": return (int) now.blocks.stream().mapToInt(x -> x.depth).distinct().count();
            case "trainCount": return now.trains.size();
            case "blockOf": return train(a).block;
            case "positionOf": return train(a).position;
            case "wagonsOf": return train(a).wagons;
            case "topSpeedOf": return train(a).top;
            case "speedOf": return now.speed(train(a));
            case "waitsOf": return train(a).waits;
            case "passages": train(a); block(b); return train(a).left.getOrDefault(b, 0);
            case "differentPassages": return now.trains.stream().mapToInt(t -> t.left.size()).sum();
            case "ticksToEnd": return ticksToEnd(train(a));
            case "trainAhead": return trainAhead(train(a));
            case "clearBlocksAhead": return clearBlocksAhead(train(a));
            case "canEnter": return now.canEnter(train(a));
            case "blockAfter": return blockAfter(a, b);
            case "ticksUntilWait": return ticksUntilWait(a);
            case "totalWagons": return now.wagons();
            case "lostWagons": return now.lost();
            case "removedWagons": return now.removed;
            case "sharedBlocks": return 0;
            case "wagonDifference": return 0;
            case "meanDepth": return meanDepth();
            case "waitShare": return waitShare();
            default: throw new AssertionError(call);
        }
    }

    private int count(boolean levers) {
        int count = 0;
        for (int i = 0; i < now.blocks.size(); i++) {
            if (levers ? now.obstacle(i) == 0 : !now.occupied(i)) {
                count++;
            }
        }
        return count;
    }

    private int deepest() {
        int best = -1;
        for (int i = now.blocks.size() - 1; i >= 0; i--) {
            if (best < 0 || now.blocks.get(i).depth >= now.blocks.get(best).depth) {
                best = i;
            }
        }
        return best;
    }

    private int ticksToEnd(Train t) {
        int position = t.position;
        int ticks = 0;
        while (position < now.blocks.get(t.block).length) {
            position += now.speed(t);
            ticks++;
        }
        return ticks;
    }

    private int trainAhead(Train t) {
        for (int i = now.after(t.block); i != t.block; i = now.after(i)) {
            if (now.in(i) >= 0) {
                return now.in(i);
            }
        }
        return -1;
    }

    private int clearBlocksAhead(Train t) {
        int count = 0;
        for (int i = now.after(t.block); !now.occupied(i); i = now.after(i)) {
            count++;
        }
        return count;
    }

    private int blockAfter(int train, int ticks) {
        train(train);
        argument(ticks >= 0 && ticks <= 200);
        Ring later = now.copy();
        for (int i = 0; i < ticks; i++) {
            later.pass();
        }
        return later.trains.get(train).block;
    }

    private int ticksUntilWait(int train) {
        int waits = train(train).waits;
        Ring later = now.copy();
        for (int i = 1; i <= 200; i++) {
            later.pass();
            if (later.trains.get(train).waits != waits) {
                return i;
            }
        }
        return -1;
    }

    private double meanDepth() {
        double sum = now.blocks.stream().mapToInt(x -> x.depth).sum();
        return now.blocks.isEmpty() ? 0.0 : sum / now.blocks.size();
    }

    private float waitShare() {
        float sum = now.trains.stream().mapToInt(t -> t.waits).sum();
        float all = now.tick * now.trains.size();
        return all == 0 ? 0.0f : sum / all;
    }

    /** The answer to a call that may change something, by its name. */
    Object act(String call, int a, int b) {
        switch (call) {
            case "advance": return advance(a);
            case "pull":
                block(a);
                state(now.obstacle(a) == 0);
                record();
                block(a).clear = true;
                return now.clearSignals();
            case "setDanger":
                state(block(a).clear);
                record();
                block(a).clear = false;
                return now.clearSignals();
            case "repair":
                int depth = block(a).depth;
                state(now.in(a) < 0);
                record();
                block(a).depth = 0;
                return depth;
            case "removeWagons":
                int lost = block(a).lost;
                record();
                now.removed += lost;
                block(a).lost = 0;
                return lost;
            case "addWagons":
                train(a);
                argument(b >= 1 && b <= 11);
                state(train(a).wagons + b <= 12);
                record();
                train(a).wagons += b;
                return train(a).wagons;
            case "setTopSpeed":
                int top = train(a).top;
                argument(b >= 1 && b <= 5);
                record();
                train(a).top = b;
                return top;
            case "restore":
                index(a == 0 || a == 1);
                state(saved[a] != null);
                record();
                now = saved[a].copy();
                return now.tick;
            case "undo":
                state(!past.isEmpty());
                now = past.removeLast();
                return past.size();
            case "save":
                index(a == 0 || a == 1);
                saved[a] = now.copy();
                return now.tick;
            case "writeRing": return writeRing();
            case "writeTrain":
                Train t = train(a);
                output = String.format("%d:%d/%d %dw", t.block, t.position, now.blocks.get(t.block).length, t.wagons);
                return output.length();
            case "outputByte":
                index(a >= 0 && a < output.length());
                return (int) output.charAt(a);
            case "load": return load(a);
            default: throw new AssertionError(call);
        }
    }

    private int advance(int ticks) {
        argument(ticks >= 1 && ticks <= 99);
        state(now.tick + ticks <= 9999);
        record();
        int entered = 0;
        for (int i = 0; i < ticks; i++) {
            entered += now.pass();
        }
        return entered;
    }

    private int writeRing() {
        StringBuilder text = new StringBuilder();
        for (int i = 0; i < now.blocks.size(); i++) {
            Block b = now.blocks.get(i);
            text.append(b.clear ? "+" : "-").append(now.in(i) < 0 ? "_" : "" + now.in(i)).append("w".repeat(b.lost));
        }
        output = text.toString();
        return output.length();
    }
}
