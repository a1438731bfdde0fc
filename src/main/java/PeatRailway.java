/**
 * A simulator of a peat railway: a ring of blocks with hand levers and signals, sleepers that sink,
 * trains that may lose wagons, and blind bends with speed limits.
 */
public final class PeatRailway {
    /** The result of a search that finds nothing. */
    public static final int NONE = -1;

    private static final int MOST_BLOCKS = 10;
    private static final int MOST_TRAINS = 5;
    private static final int MOST_LENGTH = 20;
    private static final int MOST_DEPTH = 9;
    private static final int MOST_WAGONS = 12;
    private static final int TOP_SPEED = 5;
    private static final int LAST_TICK = 9999;
    private static final int LONGEST_ADVANCE = 99;
    private static final int LONGEST_FORECAST = 200;
    private static final String FIRST_TEXT =
            "railway; block 6 2; block 4 7 bend 3; block 8 0; block 5 8; train 0 5 4; train 3 8 5; pull 1; ticks 3";

    private final State current = new State();
    private final State forecast = new State();
    private final History history = new History();
    private final Slot firstSlot = new Slot();
    private final Slot secondSlot = new Slot();
    private final Parser parser = new Parser();
    private final Output output = new Output();

    public PeatRailway() {
        parser.putText(FIRST_TEXT);
        if (parser.parseText(FIRST_TEXT.length())) {
            current.copyFrom(parser.result);
        }
    }

    // ---- input

    public int append(int a, int b, int c, int d, int e) throws IllegalStateException {
        if (!parser.hasRoom(20)) {
            throw new IllegalStateException("the input buffer is full");
        }
        parser.putInt(a);
        parser.putInt(b);
        parser.putInt(c);
        parser.putInt(d);
        parser.putInt(e);
        return parser.filled;
    }

    public int load(int length) throws IndexOutOfBoundsException, IllegalArgumentException {
        if (length < 0 || length > parser.filled) {
            throw new IndexOutOfBoundsException("no such length");
        }
        if (!parser.parseText(length)) {
            throw new IllegalArgumentException("the text has an error");
        }
        current.copyFrom(parser.result);
        history.forget();
        firstSlot.full = false;
        secondSlot.full = false;
        return current.blockCount;
    }

    public int errorKind() {
        return parser.errorKind;
    }

    public int errorOffset() {
        return parser.errorOffset;
    }

    // ---- blocks

    public int tick() {
        return current.tick;
    }

    public int blockCount() {
        return current.blockCount;
    }

    public int lengthOf(int block) throws IndexOutOfBoundsException {
        requireBlock(block);
        return current.length[block];
    }

    public int depthOf(int block) throws IndexOutOfBoundsException {
        requireBlock(block);
        return current.depth[block];
    }

    public boolean isBend(int block) throws IndexOutOfBoundsException {
        requireBlock(block);
        return current.bends(block);
    }

    public int limitOf(int block) throws IndexOutOfBoundsException {
        requireBlock(block);
        return current.speedLimit(block);
    }

    public boolean isClear(int block) throws IndexOutOfBoundsException {
        requireBlock(block);
        return current.clear[block];
    }

    public int trainIn(int block) throws IndexOutOfBoundsException {
        requireBlock(block);
        return current.occupant[block];
    }

    public int lostIn(int block) throws IndexOutOfBoundsException {
        requireBlock(block);
        return current.lost[block];
    }

    public int departuresFrom(int block) throws IndexOutOfBoundsException {
        requireBlock(block);
        int departures = 0;
        for (int train = 0; train < current.trainCount; train++) {
            departures += current.passagesOf(train, block);
        }
        return departures;
    }

    public int obstacle(int block) throws IndexOutOfBoundsException {
        requireBlock(block);
        return current.leverObstacle(block);
    }

    public int freeLevers() {
        int free = 0;
        for (int block = 0; block < current.blockCount; block++) {
            if (current.leverObstacle(block) == 0) {
                free++;
            }
        }
        return free;
    }

    public int emptyBlocks() {
        int empty = 0;
        for (int block = 0; block < current.blockCount; block++) {
            if (!current.occupied(block)) {
                empty++;
            }
        }
        return empty;
    }

    public int deepestBlock() {
        int deepest = NONE;
        int greatest = -1;
        for (int block = 0; block < current.blockCount; block++) {
            if (current.depth[block] > greatest) {
                deepest = block;
                greatest = current.depth[block];
            }
        }
        return deepest;
    }

    public int differentDepths() {
        int seen = 0;
        for (int block = 0; block < current.blockCount; block++) {
            seen |= 1 << current.depth[block];
        }
        return Integer.bitCount(seen);
    }

    // ---- trains

    public int trainCount() {
        return current.trainCount;
    }

    public int blockOf(int train) throws IndexOutOfBoundsException {
        requireTrain(train);
        return current.place[train];
    }

    public int positionOf(int train) throws IndexOutOfBoundsException {
        requireTrain(train);
        return current.position[train];
    }

    public int wagonsOf(int train) throws IndexOutOfBoundsException {
        requireTrain(train);
        return current.wagons[train];
    }

    public int topSpeedOf(int train) throws IndexOutOfBoundsException {
        requireTrain(train);
        return current.topSpeed[train];
    }

    public int speedOf(int train) throws IndexOutOfBoundsException {
        requireTrain(train);
        return current.speedNow(train);
    }

    public int waitsOf(int train) throws IndexOutOfBoundsException {
        requireTrain(train);
        return current.waits[train];
    }

    public int passages(int train, int block) throws IndexOutOfBoundsException {
        requireTrain(train);
        requireBlock(block);
        return current.passagesOf(train, block);
    }

    public int differentPassages() {
        int pairs = 0;
        for (int train = 0; train < current.trainCount; train++) {
            for (int block = 0; block < current.blockCount; block++) {
                if (current.passagesOf(train, block) > 0) {
                    pairs++;
                }
            }
        }
        return pairs;
    }

    public int ticksToEnd(int train) throws IndexOutOfBoundsException {
        requireTrain(train);
        int way = current.length[current.place[train]] - current.position[train];
        int speed = current.speedNow(train);
        return speed < 1 ? 0 : (way + speed - 1) / speed;
    }

    public int trainAhead(int train) throws IndexOutOfBoundsException {
        requireTrain(train);
        int block = current.place[train];
        for (int steps = 1; steps < current.blockCount; steps++) {
            block = current.nextBlock(block);
            if (current.occupant[block] != NONE) {
                return current.occupant[block];
            }
        }
        return NONE;
    }

    public int clearBlocksAhead(int train) throws IndexOutOfBoundsException {
        requireTrain(train);
        int free = 0;
        int block = current.nextBlock(current.place[train]);
        while (free < current.blockCount && !current.occupied(block)) {
            free++;
            block = current.nextBlock(block);
        }
        return free;
    }

    public boolean canEnter(int train) throws IndexOutOfBoundsException {
        requireTrain(train);
        return current.opensTo(current.nextBlock(current.place[train]));
    }

    // ---- forecasts

    public int blockAfter(int train, int ticks)
            throws IndexOutOfBoundsException, IllegalArgumentException {
        requireTrain(train);
        if (ticks < 0 || ticks > LONGEST_FORECAST) {
            throw new IllegalArgumentException("ticks out of range");
        }
        forecast.copyFrom(current);
        forecast.pass(ticks);
        return forecast.place[train];
    }

    public int ticksUntilWait(int train) throws IndexOutOfBoundsException {
        requireTrain(train);
        forecast.copyFrom(current);
        for (int ticks = 1; ticks <= LONGEST_FORECAST; ticks++) {
            forecast.pass(1);
            if (forecast.waits[train] > current.waits[train]) {
                return ticks;
            }
        }
        return NONE;
    }

    // ---- measures

    public int totalWagons() {
        return current.sumOfWagons();
    }

    public int lostWagons() {
        return current.sumOfLost();
    }

    public int removedWagons() {
        return current.removed;
    }

    public int sharedBlocks() {
        int pairs = 0;
        for (int train = 0; train < current.trainCount; train++) {
            for (int other = 0; other < train; other++) {
                if (current.place[other] == current.place[train]) {
                    pairs++;
                }
            }
        }
        return pairs;
    }

    public int wagonDifference() {
        int present = current.sumOfWagons() + current.sumOfLost() + current.removed;
        return Math.abs(present - current.added);
    }

    public double meanDepth() {
        if (current.blockCount == 0) {
            return 0.0;
        }
        int sum = 0;
        for (int block = 0; block < current.blockCount; block++) {
            sum += current.depth[block];
        }
        return (double) sum / (double) current.blockCount;
    }

    public float waitShare() {
        int chances = current.tick * current.trainCount;
        if (chances == 0) {
            return 0.0f;
        }
        int sum = 0;
        for (int train = 0; train < current.trainCount; train++) {
            sum += current.waits[train];
        }
        return (float) sum / (float) chances;
    }

    // ---- changes

    public int advance(int ticks) throws IllegalArgumentException, IllegalStateException {
        if (ticks < 1 || ticks > LONGEST_ADVANCE) {
            throw new IllegalArgumentException("ticks out of range");
        }
        if (ticks > LAST_TICK - current.tick) {
            throw new IllegalStateException("the tick number would exceed 9999");
        }
        history.record(current);
        return current.pass(ticks);
    }

    public int pull(int block) throws IndexOutOfBoundsException, IllegalStateException {
        requireBlock(block);
        if (current.leverObstacle(block) != 0) {
            throw new IllegalStateException("there is an obstacle");
        }
        history.record(current);
        current.clear[block] = true;
        return current.clearSignals();
    }

    public int setDanger(int block) throws IndexOutOfBoundsException, IllegalStateException {
        requireBlock(block);
        if (!current.clear[block]) {
            throw new IllegalStateException("the signal is at danger");
        }
        history.record(current);
        current.clear[block] = false;
        return current.clearSignals();
    }

    public int repair(int block) throws IndexOutOfBoundsException, IllegalStateException {
        requireBlock(block);
        if (current.occupant[block] != NONE) {
            throw new IllegalStateException("there is a train in the block");
        }
        history.record(current);
        int before = current.depth[block];
        current.depth[block] = 0;
        return before;
    }

    public int removeWagons(int block) throws IndexOutOfBoundsException {
        requireBlock(block);
        history.record(current);
        int taken = current.lost[block];
        current.lost[block] = 0;
        current.removed += taken;
        return taken;
    }

    public int addWagons(int train, int wagons)
            throws IndexOutOfBoundsException, IllegalArgumentException, IllegalStateException {
        requireTrain(train);
        if (wagons < 1 || wagons > MOST_WAGONS - 1) {
            throw new IllegalArgumentException("wagons out of range");
        }
        if (current.wagons[train] + wagons > MOST_WAGONS) {
            throw new IllegalStateException("too many wagons");
        }
        history.record(current);
        current.wagons[train] += wagons;
        current.added += wagons;
        return current.wagons[train];
    }

    public int setTopSpeed(int train, int speed)
            throws IndexOutOfBoundsException, IllegalArgumentException {
        requireTrain(train);
        if (speed < 1 || speed > TOP_SPEED) {
            throw new IllegalArgumentException("speed out of range");
        }
        history.record(current);
        int previous = current.topSpeed[train];
        current.topSpeed[train] = speed;
        return previous;
    }

    public int restore(int slot) throws IndexOutOfBoundsException, IllegalStateException {
        requireSlot(slot);
        Slot chosen = slotFor(slot);
        if (!chosen.full) {
            throw new IllegalStateException("nothing is saved in the slot");
        }
        history.record(current);
        current.copyFrom(chosen.state);
        return current.tick;
    }

    // ---- undo and saved states

    public int undo() throws IllegalStateException {
        if (history.count == 0) {
            throw new IllegalStateException("there is no change to undo");
        }
        history.takeBack(current);
        return history.count;
    }

    public int save(int slot) throws IndexOutOfBoundsException {
        requireSlot(slot);
        Slot chosen = slotFor(slot);
        chosen.state.copyFrom(current);
        chosen.full = true;
        return current.tick;
    }

    // ---- output

    public int writeRing() {
        output.filled = 0;
        for (int block = 0; block < current.blockCount; block++) {
            output.put(current.clear[block] ? '+' : '-');
            int train = current.occupant[block];
            if (train == NONE) {
                output.put('_');
            } else {
                output.putNumber(train);
            }
            for (int wagon = 0; wagon < current.lost[block]; wagon++) {
                output.put('w');
            }
        }
        return output.filled;
    }

    public int writeTrain(int train) throws IndexOutOfBoundsException {
        requireTrain(train);
        int block = current.place[train];
        output.filled = 0;
        output.putNumber(block);
        output.put(':');
        output.putNumber(current.position[train]);
        output.put('/');
        output.putNumber(current.length[block]);
        output.put(' ');
        output.putNumber(current.wagons[train]);
        output.put('w');
        return output.filled;
    }

    public int outputByte(int index) throws IndexOutOfBoundsException {
        if (index < 0 || index >= output.filled) {
            throw new IndexOutOfBoundsException("no such byte");
        }
        return output.bytes[index];
    }

    private void requireBlock(int block) {
        if (block < 0 || block >= current.blockCount) {
            throw new IndexOutOfBoundsException("no such block");
        }
    }

    private void requireTrain(int train) {
        if (train < 0 || train >= current.trainCount) {
            throw new IndexOutOfBoundsException("no such train");
        }
    }

    private void requireSlot(int slot) {
        if (slot != 0 && slot != 1) {
            throw new IndexOutOfBoundsException("no such slot");
        }
    }

    private Slot slotFor(int slot) {
        return slot == 0 ? firstSlot : secondSlot;
    }

    /**
     * All that undo() restores. Places beyond the counts hold leftovers that nothing reads. The counts stay
     * within the rows, and place and occupant within the counts: only addBlock, addTrain, move and copyFrom
     * set them, and who passes a block or a train here has looked at it before.
     */
    private static final class State {
        private static final int NO_BEND = 0;
        private static final int LOOSE_DEPTH = 7;
        private static final int LOOSE_SPEED = 3;

        int tick;
        int blockCount;
        int trainCount;
        int removed;
        /** The wagons of all trains when they were added, and those that were added later. */
        int added;

        final int[] length = new int[MOST_BLOCKS];
        final int[] depth = new int[MOST_BLOCKS];
        final int[] bendLimit = new int[MOST_BLOCKS];
        final boolean[] clear = new boolean[MOST_BLOCKS];
        final int[] lost = new int[MOST_BLOCKS];
        /** The train in each block or NONE, the other direction of place. */
        final int[] occupant = new int[MOST_BLOCKS];

        final int[] place = new int[MOST_TRAINS];
        final int[] position = new int[MOST_TRAINS];
        final int[] wagons = new int[MOST_TRAINS];
        final int[] topSpeed = new int[MOST_TRAINS];
        final int[] waits = new int[MOST_TRAINS];
        /** A run of MOST_BLOCKS counts for each train. */
        final int[] passages = new int[MOST_TRAINS * MOST_BLOCKS];

        void copyFrom(State other) {
            tick = other.tick;
            blockCount = other.blockCount;
            trainCount = other.trainCount;
            removed = other.removed;
            added = other.added;
            System.arraycopy(other.length, 0, length, 0, MOST_BLOCKS);
            System.arraycopy(other.depth, 0, depth, 0, MOST_BLOCKS);
            System.arraycopy(other.bendLimit, 0, bendLimit, 0, MOST_BLOCKS);
            for (int block = 0; block < MOST_BLOCKS; block++) {
                clear[block] = other.clear[block];
            }
            System.arraycopy(other.lost, 0, lost, 0, MOST_BLOCKS);
            System.arraycopy(other.occupant, 0, occupant, 0, MOST_BLOCKS);
            System.arraycopy(other.place, 0, place, 0, MOST_TRAINS);
            System.arraycopy(other.position, 0, position, 0, MOST_TRAINS);
            System.arraycopy(other.wagons, 0, wagons, 0, MOST_TRAINS);
            System.arraycopy(other.topSpeed, 0, topSpeed, 0, MOST_TRAINS);
            System.arraycopy(other.waits, 0, waits, 0, MOST_TRAINS);
            System.arraycopy(other.passages, 0, passages, 0, MOST_TRAINS * MOST_BLOCKS);
        }

        void makeEmpty() {
            tick = 0;
            blockCount = 0;
            trainCount = 0;
            removed = 0;
            added = 0;
        }

        void addBlock(int newLength, int newDepth, int newLimit) {
            int block = blockCount;
            if (block >= MOST_BLOCKS) {
                return;
            }
            length[block] = newLength;
            depth[block] = newDepth;
            bendLimit[block] = newLimit;
            clear[block] = false;
            lost[block] = 0;
            occupant[block] = NONE;
            blockCount = block + 1;
        }

        void addTrain(int block, int newWagons, int newSpeed) {
            int train = trainCount;
            if (train >= MOST_TRAINS) {
                return;
            }
            place[train] = block;
            position[train] = 0;
            wagons[train] = newWagons;
            topSpeed[train] = newSpeed;
            waits[train] = 0;
            for (int other = 0; other < MOST_BLOCKS; other++) {
                passages[train * MOST_BLOCKS + other] = 0;
            }
            occupant[block] = train;
            added += newWagons;
            trainCount = train + 1;
        }

        boolean bends(int block) {
            return bendLimit[block] != NO_BEND;
        }

        int speedLimit(int block) {
            return bendLimit[block] == NO_BEND ? TOP_SPEED : bendLimit[block];
        }

        int speedNow(int train) {
            return Math.min(topSpeed[train], speedLimit(place[train]));
        }

        int passagesOf(int train, int block) {
            return passages[train * MOST_BLOCKS + block];
        }

        /** The block that a train enters when it leaves the given one. */
        int nextBlock(int block) {
            return block + 1 < blockCount ? block + 1 : 0;
        }

        boolean occupied(int block) {
            return occupant[block] != NONE || lost[block] > 0;
        }

        boolean opensTo(int block) {
            return clear[block] && !occupied(block);
        }

        int leverObstacle(int block) {
            if (occupant[block] != NONE) {
                return 1;
            }
            if (lost[block] > 0) {
                return 2;
            }
            if (clear[block]) {
                return 3;
            }
            return bends(block) && occupied(nextBlock(block)) ? 4 : 0;
        }

        int clearSignals() {
            int count = 0;
            for (int block = 0; block < blockCount; block++) {
                if (clear[block]) {
                    count++;
                }
            }
            return count;
        }

        int sumOfWagons() {
            int sum = 0;
            for (int train = 0; train < trainCount; train++) {
                sum += wagons[train];
            }
            return sum;
        }

        int sumOfLost() {
            int sum = 0;
            for (int block = 0; block < blockCount; block++) {
                sum += lost[block];
            }
            return sum;
        }

        /** Lets ticks pass and returns how often a train entered a block. */
        int pass(int ticks) {
            int entered = 0;
            for (int passed = 0; passed < ticks; passed++) {
                tick++;
                for (int train = 0; train < trainCount; train++) {
                    if (move(train)) {
                        entered++;
                    }
                }
            }
            return entered;
        }

        private boolean move(int train) {
            int block = place[train];
            int speed = speedNow(train);
            position[train] = Math.min(position[train] + speed, length[block]);
            if (position[train] < length[block]) {
                return false;
            }
            int next = nextBlock(block);
            if (!opensTo(next)) {
                waits[train]++;
                return false;
            }
            leave(train, block, speed);
            place[train] = next;
            position[train] = 0;
            occupant[next] = train;
            clear[next] = false;
            return true;
        }

        private void leave(int train, int block, int speed) {
            if (depth[block] >= LOOSE_DEPTH && speed >= LOOSE_SPEED && wagons[train] > 1) {
                wagons[train]--;
                lost[block]++;
            }
            depth[block] = Math.min(depth[block] + 1 + wagons[train] / 4, MOST_DEPTH);
            passages[train * MOST_BLOCKS + block]++;
            occupant[block] = NONE;
        }
    }

    /** The states before the last recorded changes, in places that are used in turn. */
    private static final class History {
        private static final int PLACES = 10;

        private final State[] states = new State[PLACES];
        private int next;
        int count;

        History() {
            for (int place = 0; place < PLACES; place++) {
                states[place] = new State();
            }
        }

        void record(State before) {
            State kept = states[next];
            if (kept == null) {
                return;
            }
            kept.copyFrom(before);
            next = next + 1 < PLACES ? next + 1 : 0;
            count = Math.min(count + 1, PLACES);
        }

        void takeBack(State target) {
            int last = next > 0 ? next - 1 : PLACES - 1;
            State kept = states[last];
            if (kept == null || count < 1) {
                return;
            }
            target.copyFrom(kept);
            next = last;
            count--;
        }

        void forget() {
            count = 0;
        }
    }

    /** A saved state; what it holds counts only while it is full. */
    private static final class Slot {
        final State state = new State();
        boolean full;
    }

    /** The input buffer, the parser of its text, and the error that the last text had. */
    private static final class Parser {
        private static final int ROOM = 600;
        private static final int MOST_DIGITS = 3;

        private static final int SYNTAX = 1;
        private static final int OUT_OF_RANGE = 2;
        private static final int OCCUPIED = 3;
        private static final int TOO_MANY = 4;
        private static final int REFUSED = 5;

        private static final int END = 0;
        private static final int WORD = 1;
        private static final int NUMBER = 2;
        private static final int SEMICOLON = 3;
        private static final int WRONG = 4;

        private final byte[] text = new byte[ROOM];
        int filled;
        int errorKind;
        int errorOffset = NONE;
        final State result = new State();

        /** The bytes that are parsed, at most those that are filled. */
        private int limit;
        private int token;
        private int tokenStart;
        private int tokenEnd;
        /** The start of the token before this one, for errors that show only when it is taken. */
        private int takenStart;

        boolean hasRoom(int bytes) {
            return filled + bytes <= ROOM;
        }

        void putInt(int bytes) {
            put(bytes >> 24);
            put(bytes >> 16);
            put(bytes >> 8);
            put(bytes);
        }

        void putText(String letters) {
            for (int index = 0; index < letters.length(); index++) {
                put(letters.charAt(index));
            }
        }

        private void put(int value) {
            if (filled < ROOM) {
                text[filled] = (byte) value;
                filled++;
            }
        }

        /** Parses the first bytes into result, empties the buffer, and tells whether all is right. */
        boolean parseText(int bytes) {
            limit = Math.min(bytes, filled);
            filled = 0;
            errorKind = 0;
            errorOffset = NONE;
            result.makeEmpty();
            token = END;
            tokenStart = 0;
            tokenEnd = 0;
            readToken();
            if (!takeWord("railway")) {
                return fail(SYNTAX, tokenStart);
            }
            for (int lines = 0; lines < ROOM && token == SEMICOLON; lines++) {
                readToken();
                if (!parseLine()) {
                    return false;
                }
            }
            return token == END || fail(SYNTAX, tokenStart);
        }

        private boolean parseLine() {
            if (takeWord("block")) {
                return parseBlock();
            }
            if (takeWord("train")) {
                return parseTrain();
            }
            if (takeWord("ticks")) {
                int ticks = takeNumber(1, Math.min(LONGEST_ADVANCE, LAST_TICK - result.tick));
                if (ticks == NONE) {
                    return false;
                }
                result.pass(ticks);
                return true;
            }
            if (takeWord("pull")) {
                int block = takeNumber(0, result.blockCount - 1);
                return block != NONE && pullLever(block);
            }
            if (takeWord("danger")) {
                int block = takeNumber(0, result.blockCount - 1);
                return block != NONE && showDanger(block);
            }
            if (takeWord("repair")) {
                int block = takeNumber(0, result.blockCount - 1);
                return block != NONE && mend(block);
            }
            return fail(SYNTAX, tokenStart);
        }

        private boolean parseBlock() {
            if (result.blockCount >= MOST_BLOCKS) {
                return fail(TOO_MANY, takenStart);
            }
            int length = takeNumber(1, MOST_LENGTH);
            if (length == NONE) {
                return false;
            }
            int depth = takeNumber(0, MOST_DEPTH);
            if (depth == NONE) {
                return false;
            }
            int limitOfBend = State.NO_BEND;
            if (takeWord("bend")) {
                limitOfBend = takeNumber(1, TOP_SPEED);
            }
            if (limitOfBend == NONE) {
                return false;
            }
            result.addBlock(length, depth, limitOfBend);
            return true;
        }

        private boolean parseTrain() {
            if (result.trainCount >= MOST_TRAINS) {
                return fail(TOO_MANY, takenStart);
            }
            int block = takeNumber(0, result.blockCount - 1);
            if (block == NONE) {
                return false;
            }
            if (result.occupied(block)) {
                return fail(OCCUPIED, takenStart);
            }
            int wagons = takeNumber(1, MOST_WAGONS);
            if (wagons == NONE) {
                return false;
            }
            int speed = takeNumber(1, TOP_SPEED);
            if (speed == NONE) {
                return false;
            }
            result.addTrain(block, wagons, speed);
            return true;
        }

        private boolean pullLever(int block) {
            if (result.leverObstacle(block) != 0) {
                return fail(REFUSED, takenStart);
            }
            result.clear[block] = true;
            return true;
        }

        private boolean showDanger(int block) {
            if (!result.clear[block]) {
                return fail(REFUSED, takenStart);
            }
            result.clear[block] = false;
            return true;
        }

        private boolean mend(int block) {
            if (result.occupant[block] != NONE) {
                return fail(REFUSED, takenStart);
            }
            result.depth[block] = 0;
            return true;
        }

        private boolean fail(int kind, int offset) {
            errorKind = kind;
            errorOffset = offset;
            return false;
        }

        private boolean takeWord(String word) {
            if (token != WORD || tokenEnd - tokenStart != word.length()) {
                return false;
            }
            for (int index = 0; index < word.length(); index++) {
                if (text[tokenStart + index] != word.charAt(index)) {
                    return false;
                }
            }
            readToken();
            return true;
        }

        /** Takes a number from low to high; otherwise the error is noted and the answer NONE. */
        private int takeNumber(int low, int high) {
            if (token != NUMBER || tokenEnd - tokenStart > MOST_DIGITS) {
                fail(SYNTAX, tokenStart);
                return NONE;
            }
            int value = 0;
            for (int index = tokenStart; index < tokenEnd; index++) {
                value = value * 10 + text[index] - '0';
            }
            if (value < low || value > high) {
                fail(OUT_OF_RANGE, tokenStart);
                return NONE;
            }
            readToken();
            return value;
        }

        private void readToken() {
            boolean afterText = token == WORD || token == NUMBER;
            int before = tokenEnd;
            takenStart = tokenStart;
            tokenStart = before;
            while (tokenStart < limit && (text[tokenStart] == ' ' || text[tokenStart] == '\n')) {
                tokenStart++;
            }
            tokenEnd = tokenStart;
            if (tokenStart >= limit) {
                token = END;
                return;
            }
            int first = text[tokenStart];
            if (first >= 'a' && first <= 'z') {
                token = WORD;
                tokenEnd = endOfRun('a', 'z');
            } else if (first >= '0' && first <= '9') {
                token = NUMBER;
                tokenEnd = endOfRun('0', '9');
            } else {
                token = first == ';' ? SEMICOLON : WRONG;
                tokenEnd = tokenStart + 1;
            }
            if (afterText && tokenStart == before && token != SEMICOLON) {
                token = WRONG;
            }
        }

        /** The end of the bytes from low to high that stand at the start of the token. */
        private int endOfRun(char low, char high) {
            int end = tokenStart;
            while (end < limit && text[end] >= low && text[end] <= high) {
                end++;
            }
            return end;
        }
    }

    /** The output buffer; the longest ring takes 29 bytes: no block holds two lost wagons, and that of a train none. */
    private static final class Output {
        private static final int ROOM = 64;

        final byte[] bytes = new byte[ROOM];
        int filled;

        void put(char letter) {
            if (filled < ROOM) {
                bytes[filled] = (byte) letter;
                filled++;
            }
        }

        /** Writes a number from 0 to 99. */
        void putNumber(int number) {
            if (number >= 10) {
                put((char) ('0' + number / 10));
            }
            put((char) ('0' + number % 10));
        }
    }
}
