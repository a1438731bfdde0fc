/** Each boundary that promises 21 to 33 and the parts "Trains" and "One tick" name. */
public final class EdgesTrainsTest {
    public static void main(String[] args) {
        trainCount();
        trainsThatAreThere();
        blockAndPosition();
        wagonsAndSpeeds();
        waits();
        passages();
        passagesOfMissing();
        differentPassages();
        ticksToEnd();
        trainAhead();
        clearBlocksAhead();
        canEnter();
        tickNumber();
        ascendingNumbers();
        notAboveTheLength();
        entering();
        waiting();
        losingWagons();
        sinking();
        aroundTheRing();
        Edge.end(21, 33);
    }

    private static void trainCount() {
        Edge.sentence("Promise 21", "Returns 0 to 5.");
        for (int count = 0; count <= 5; count++) {
            StringBuilder text = new StringBuilder(Edge.TEN_BLOCKS);
            for (int train = 0; train < count; train++) {
                text.append(";train ").append(9 - train).append(" 1 1");
            }
            Check.equal("trainCount()", Check.ring(text.toString()).trainCount(), count);
        }
        Check.equal("trainCount() without blocks", Check.ring(Edge.NO_BLOCKS).trainCount(), 0);
        Edge.sentence("Trains", "There are at most 5 trains, numbered from 0.");
        Edge.wrong(4, Edge.FIVE_TRAINS + ";^train 5 1 1");
    }

    private static void trainsThatAreThere() {
        Edge.noSuchTrain(22, "blockOf", PeatRailway::blockOf);
        Edge.noSuchTrain(23, "positionOf", PeatRailway::positionOf);
        Edge.noSuchTrain(24, "wagonsOf", PeatRailway::wagonsOf);
        Edge.noSuchTrain(25, "topSpeedOf", PeatRailway::topSpeedOf);
        Edge.noSuchTrain(26, "speedOf", PeatRailway::speedOf);
        Edge.noSuchTrain(27, "waitsOf", PeatRailway::waitsOf);
        Edge.noSuchTrain(28, "passages with block 0", (x, train) -> x.passages(train, 0));
        Edge.noSuchTrain(30, "ticksToEnd", PeatRailway::ticksToEnd);
        Edge.noSuchTrain(31, "trainAhead", PeatRailway::trainAhead);
        Edge.noSuchTrain(32, "clearBlocksAhead", PeatRailway::clearBlocksAhead);
        Edge.noSuchTrain(33, "canEnter", PeatRailway::canEnter);
    }

    private static void blockAndPosition() {
        Edge.sentence("Promise 22", "Returns the block.");
        PeatRailway x = Check.ring(Edge.TEN_BLOCKS + ";train 0 1 1;train 9 1 1");
        Check.equal("blockOf(0), the first", x.blockOf(0), 0);
        Check.equal("blockOf(1), the last", x.blockOf(1), 9);
        Edge.sentence("Promise 23", "Returns 0 to the length of the block.");
        for (int length = 1; length <= 20; length++) {
            PeatRailway y = Check.ring("railway;block " + length + " 0;train 0 1 1");
            for (int position = 0; position <= length; position++) {
                Check.equal("positionOf(0) in a block of " + length, y.positionOf(0), position);
                y.advance(1);
            }
            Check.equal("positionOf(0) at the end of a block of " + length, y.positionOf(0), length);
        }
    }

    private static void wagonsAndSpeeds() {
        Edge.sentence("Promise 24", "Returns 1 to 12.");
        for (int wagons = 1; wagons <= 12; wagons++) {
            Check.equal("wagonsOf(0)", Check.ring("railway;block 1 0;train 0 " + wagons + " 1").wagonsOf(0), wagons);
        }
        // the last wagon is never lost
        PeatRailway x = Check.ring("railway;block 1 9;block 1 9;block 1 9;train 0 2 5;pull 1;ticks 1;pull 2;ticks 1");
        Check.equal("wagonsOf(0), the smallest", x.wagonsOf(0), 1);
        Check.equal("lostIn(1)", x.lostIn(1), 0);
        Edge.sentence("Promise 25", "Returns 1 to 5.");
        Edge.sentence("Promise 26", "Returns 1 to 5.");
        Edge.sentence("Trains", "Its speed is its top speed or the speed limit of its block, whichever is less.");
        for (int top = 1; top <= 5; top++) {
            for (int limit = 1; limit <= 5; limit++) {
                PeatRailway y = Check.ring("railway;block 20 0 bend " + limit + ";block 20 0;train 0 1 " + top + ";train 1 1 " + top);
                Check.equal("topSpeedOf(0)", y.topSpeedOf(0), top);
                Check.equal("speedOf(0) of " + top + " in a bend of " + limit, y.speedOf(0), Math.min(top, limit));
                Check.equal("speedOf(1) of " + top + " in no bend", y.speedOf(1), top);
                y.advance(1);
                Check.equal("positionOf(0) after a tick", y.positionOf(0), Math.min(top, limit));
                Check.equal("positionOf(1) after a tick", y.positionOf(1), top);
            }
        }
    }

    private static void waits() {
        Edge.sentence("Promise 27", "Returns the number of waits.");
        PeatRailway x = Check.ring("railway;block 3 0;block 3 0;train 0 1 1");
        for (int tick = 1; tick <= 12; tick++) {
            x.advance(1);
            Check.equal("waitsOf(0) at tick " + tick, x.waitsOf(0), Math.max(0, tick - 2));
        }
        PeatRailway late = Check.ring("railway;block 1 0;train 0 1 1");
        for (int part = 0; part < 101; part++) {
            late.advance(99);
        }
        Check.equal("waitsOf(0) at tick 9999", late.waitsOf(0), 9999);
    }

    private static void passages() {
        Edge.sentence("Promise 28", "Returns the number of times.");
        String text = "railway;block 1 0;block 1 0;block 1 0;train 1 1 1;train 0 1 1";
        PeatRailway x = Check.ring(text);
        for (int train = 0; train < 2; train++) {
            for (int block = 0; block < 3; block++) {
                Check.equal("passages(" + train + ", " + block + ") at first", x.passages(train, block), 0);
            }
        }
        x.pull(2);
        x.advance(1);
        x.pull(1);
        x.advance(1);
        x.pull(0);
        x.advance(1);
        Check.same("passages of train 0", x.passages(0, 0) + " " + x.passages(0, 1) + " " + x.passages(0, 2), "0 1 1");
        Check.same("passages of train 1", x.passages(1, 0) + " " + x.passages(1, 1) + " " + x.passages(1, 2), "1 0 0");
        x.undo();
        Check.equal("passages(0, 2) after undo", x.passages(0, 2), 0);
        // train 4 and block 9, the last ones
        PeatRailway y = Check.ring(Edge.TEN_BLOCKS + ";train 1 1 1;train 2 1 1;train 3 1 1;train 4 1 1;train 9 1 1;pull 0;ticks 1");
        Check.equal("passages(4, 9)", y.passages(4, 9), 1);
        Check.equal("differentPassages()", y.differentPassages(), 1);
        Check.equal("departuresFrom(9)", y.departuresFrom(9), 1);
    }

    private static void passagesOfMissing() {
        Edge.sentence("Promise 28", "Throws IndexOutOfBoundsException if there is no such train or block");
        for (int number : new int[] {-1, Integer.MIN_VALUE, Integer.MAX_VALUE, 10}) {
            Edge.refused("passages(0, " + number + ")", Edge.ONE_TRAIN, Check.INDEX, x -> x.passages(0, number));
            Edge.refused("passages(4, " + number + ")", Edge.FIVE_TRAINS, Check.INDEX, x -> x.passages(4, number));
            Edge.refused("passages of neither", Edge.FIVE_TRAINS, Check.INDEX, x -> x.passages(number, number));
        }
        Edge.refused("passages(0, 2) of two blocks", Edge.ONE_TRAIN, Check.INDEX, x -> x.passages(0, 2));
        Edge.refused("passages(1, 1) of one train", Edge.ONE_TRAIN, Check.INDEX, x -> x.passages(1, 1));
        Edge.refused("passages(0, 0) of no train", Edge.ONE_BLOCK, Check.INDEX, x -> x.passages(0, 0));
        Edge.refused("passages(0, 0) of nothing", Edge.NO_BLOCKS, Check.INDEX, x -> x.passages(0, 0));
        Check.equal("passages(0, 1), the last block", Check.ring(Edge.ONE_TRAIN).passages(0, 1), 0);
        Check.equal("passages(4, 5), the last of both", Check.ring(Edge.FIVE_TRAINS).passages(4, 5), 0);
    }

    private static void differentPassages() {
        Edge.sentence("Promise 29", "Counts the different pairs of a train and a block that this train has left.");
        Check.equal("differentPassages() of nothing", Check.ring(Edge.NO_BLOCKS).differentPassages(), 0);
        Check.equal("differentPassages() without trains", Check.ring(Edge.TEN_BLOCKS).differentPassages(), 0);
        PeatRailway x = Check.ring(Edge.TEN_BLOCKS + ";train 0 1 1");
        for (int times = 1; times <= 25; times++) {
            x.pull(times % 10);
            x.advance(1);
            Check.equal("differentPassages() after " + times, x.differentPassages(), Math.min(times, 10));
        }
        x.undo();
        x.undo();
        Check.equal("differentPassages() after undo", x.differentPassages(), 10);
        PeatRailway y = Check.ring("railway;block 1 0;block 1 0;block 1 0;train 1 1 1;train 0 1 1;pull 2;ticks 1;pull 1;ticks 1;"
                + "pull 0;ticks 1;pull 2;ticks 1");
        Check.equal("differentPassages() of two trains by the same block", y.differentPassages(), 4);
    }

    private static void ticksToEnd() {
        Edge.sentence("Promise 30", "Returns 0 if it is the length now.");
        for (int length = 1; length <= 20; length++) {
            for (int speed = 1; speed <= 5; speed++) {
                PeatRailway x = Check.ring("railway;block " + length + " 0;train 0 1 " + speed);
                int ticks = 0;
                for (int position = 0; position < length; position += speed) {
                    ticks++;
                }
                for (int left = ticks; left >= 0; left--) {
                    Check.equal("ticksToEnd(0), length " + length + ", speed " + speed, x.ticksToEnd(0), left);
                    x.advance(1);
                }
                Check.equal("ticksToEnd(0) at the end", x.ticksToEnd(0), 0);
            }
        }
        PeatRailway bend = Check.ring("railway;block 20 0 bend 1;train 0 1 5");
        Check.equal("ticksToEnd(0) in a bend, the greatest", bend.ticksToEnd(0), 20);
    }

    private static void trainAhead() {
        Edge.sentence("Promise 31", "in the direction of the ring; NONE if there is no other train.");
        Check.equal("trainAhead(0) in a ring of one", Check.ring("railway;block 1 0;train 0 1 1").trainAhead(0), PeatRailway.NONE);
        for (int count = 2; count <= 10; count++) {
            String blocks = "railway" + ";block 1 0".repeat(count);
            for (int block = 0; block < count; block++) {
                PeatRailway alone = Check.ring(blocks + ";train " + block + " 1 1");
                Check.equal("trainAhead(0) alone in block " + block + " of " + count, alone.trainAhead(0), PeatRailway.NONE);
                int behind = (block + count - 1) % count;
                PeatRailway two = Check.ring(blocks + ";train " + block + " 1 1;train " + behind + " 1 1");
                Check.equal("trainAhead(0), the other just behind", two.trainAhead(0), 1);
                Check.equal("trainAhead(1), the other just before", two.trainAhead(1), 0);
            }
        }
        PeatRailway five = Check.ring(Edge.TEN_BLOCKS + ";train 8 1 1;train 1 1 1;train 6 1 1;train 3 1 1;train 9 1 1");
        Check.equal("trainAhead(0)", five.trainAhead(0), 4);
        Check.equal("trainAhead(4) round the ring", five.trainAhead(4), 1);
        Check.equal("trainAhead(1)", five.trainAhead(1), 3);
        Check.equal("trainAhead(3)", five.trainAhead(3), 2);
        Check.equal("trainAhead(2)", five.trainAhead(2), 0);
        PeatRailway wagon = Check.ring("railway;block 5 9;block 5 0;block 5 0;train 0 3 5;pull 1;ticks 1;train 2 1 1");
        Check.equal("trainAhead(1) over a lost wagon", wagon.trainAhead(1), 0);
    }

    private static void clearBlocksAhead() {
        Edge.sentence("Promise 32", "before the next occupied one (at the latest the block of the train itself).");
        for (int count = 1; count <= 10; count++) {
            String blocks = "railway" + ";block 1 0".repeat(count);
            for (int block = 0; block < count; block++) {
                PeatRailway alone = Check.ring(blocks + ";train " + block + " 1 1");
                Check.equal("clearBlocksAhead(0) alone in block " + block + " of " + count, alone.clearBlocksAhead(0), count - 1);
                for (int other = 0; other < count; other++) {
                    if (other != block) {
                        PeatRailway two = Check.ring(blocks + ";train " + block + " 1 1;train " + other + " 1 1");
                        Check.equal("clearBlocksAhead(0) from " + block + " to " + other + " of " + count,
                                two.clearBlocksAhead(0), (other - block + count) % count - 1);
                    }
                }
            }
        }
        PeatRailway x = Check.ring("railway;block 5 9;block 5 0;block 5 0;block 5 0;train 0 3 5;pull 1;ticks 1");
        Check.equal("clearBlocksAhead(0) before a lost wagon", x.clearBlocksAhead(0), 2);
        x.removeWagons(0);
        Check.equal("clearBlocksAhead(0) without it", x.clearBlocksAhead(0), 3);
        x.pull(2);
        Check.equal("clearBlocksAhead(0), whatever the signals tell", x.clearBlocksAhead(0), 3);
    }

    private static void canEnter() {
        Edge.sentence("Promise 33", "Returns true if the signal of the next block is clear and the next block is not occupied.");
        PeatRailway x = Check.ring("railway;block 5 0;block 5 0;train 1 1 1");
        Check.equal("canEnter(0) at danger", x.canEnter(0), false);
        x.pull(0);
        Check.equal("canEnter(0) round the ring", x.canEnter(0), true);
        x.setDanger(0);
        Check.equal("canEnter(0) at danger again", x.canEnter(0), false);
        PeatRailway train = Check.ring("railway;block 5 0;block 5 0;pull 0;train 1 1 1;train 0 1 1");
        Check.equal("canEnter(0) before a train, the signal being clear", train.canEnter(0), false);
        Check.equal("canEnter(1) before a train at danger", train.canEnter(1), false);
        PeatRailway wagon = Check.ring("railway;block 5 9;pull 0;block 5 0;train 0 3 5;pull 1;ticks 1");
        Check.equal("canEnter(0) before a lost wagon, the signal being clear", wagon.canEnter(0), false);
        wagon.removeWagons(0);
        Check.equal("canEnter(0) without it", wagon.canEnter(0), true);
        PeatRailway one = Check.ring("railway;block 5 0;pull 0;train 0 1 1");
        Check.equal("canEnter(0) in a ring of one with a clear signal", one.canEnter(0), false);
        for (int block = 0; block < 10; block++) {
            int next = (block + 1) % 10;
            String text = Edge.TEN_BLOCKS + ";train " + block + " 1 1";
            Check.equal("canEnter(0) in " + block, Check.ring(text + ";pull " + next).canEnter(0), true);
            StringBuilder others = new StringBuilder(text);
            for (int other = 0; other < 10; other++) {
                if (other != next && other != block) {
                    others.append(";pull ").append(other);
                }
            }
            Check.equal("canEnter(0) in " + block + ", all others being clear", Check.ring(others.toString()).canEnter(0), false);
        }
    }

    private static void tickNumber() {
        Edge.sentence("One tick", "When a tick passes, the tick number increases by 1.");
        PeatRailway x = Check.ring(Edge.NO_BLOCKS);
        for (int tick = 1; tick <= 5; tick++) {
            x.advance(1);
            Check.equal("tick() without blocks", x.tick(), tick);
        }
        PeatRailway y = Check.ring(Edge.FIVE_TRAINS);
        y.advance(7);
        Check.equal("tick() with five trains", y.tick(), 7);
    }

    private static void ascendingNumbers() {
        Edge.sentence("One tick", "Then the trains move one after the other, by ascending numbers.");
        // five trains in a row: they all go on if the first of them is ahead, and only that one if it is the last
        String blocks = "railway" + ";block 1 0".repeat(10) + ";pull 1;pull 2;pull 3;pull 4;pull 5";
        PeatRailway ahead = Check.ring(blocks + ";train 4 1 1;train 3 1 1;train 2 1 1;train 1 1 1;train 0 1 1");
        Check.equal("advance(1), train 0 being ahead", ahead.advance(1), 5);
        Check.same("the places", places(ahead), "5 4 3 2 1 ");
        PeatRailway behind = Check.ring(blocks + ";train 0 1 1;train 1 1 1;train 2 1 1;train 3 1 1;train 4 1 1");
        Check.equal("advance(1), train 4 being ahead", behind.advance(1), 1);
        Check.same("the places", places(behind), "0 1 2 3 5 ");
        Check.equal("waitsOf(3)", behind.waitsOf(3), 1);
        // two trains before the same block: the one that moves first takes it
        PeatRailway round = Check.ring("railway;block 1 0;block 1 0;block 1 0;pull 0;pull 2;train 1 1 1;train 2 1 1;ticks 1");
        Check.same("round the ring, train 0 behind", places(round), "1 0 ");
        PeatRailway other = Check.ring("railway;block 1 0;block 1 0;block 1 0;pull 0;pull 2;train 2 1 1;train 1 1 1;ticks 1");
        Check.same("round the ring, train 0 ahead", places(other), "0 2 ");
    }

    private static String places(PeatRailway x) {
        StringBuilder places = new StringBuilder();
        for (int train = 0; train < x.trainCount(); train++) {
            places.append(x.blockOf(train)).append(' ');
        }
        return places.toString();
    }

    private static void notAboveTheLength() {
        Edge.sentence("One tick", "Its position increases by its speed, but not above the length of its block.");
        for (int length = 1; length <= 20; length++) {
            for (int speed = 1; speed <= 5; speed++) {
                PeatRailway x = Check.ring("railway;block " + length + " 0;train 0 1 " + speed);
                for (int tick = 1; tick <= 21; tick++) {
                    x.advance(1);
                    Check.equal("positionOf(0) at tick " + tick, x.positionOf(0), Math.min(tick * speed, length));
                }
            }
        }
    }

    private static void entering() {
        Edge.sentence("One tick", "it enters the next block: its position becomes 0, and the signal of the block that it enters goes to danger.");
        // a position just below the length is not enough
        PeatRailway x = Check.ring("railway;block 7 0;block 7 0;block 7 0;pull 1;pull 2;train 0 1 3;ticks 2");
        Check.equal("positionOf(0) one below the length", x.positionOf(0), 6);
        Check.equal("blockOf(0) one below the length", x.blockOf(0), 0);
        Check.equal("isClear(1) before", x.isClear(1), true);
        Check.equal("advance(1) above the length", x.advance(1), 1);
        Check.equal("blockOf(0)", x.blockOf(0), 1);
        Check.equal("positionOf(0)", x.positionOf(0), 0);
        Check.equal("isClear(1)", x.isClear(1), false);
        Check.equal("isClear(2), which it has not entered", x.isClear(2), true);
        Check.equal("waitsOf(0)", x.waitsOf(0), 0);
        PeatRailway exact = Check.ring("railway;block 6 0;block 6 0;pull 1;train 0 1 3;ticks 2");
        Check.equal("blockOf(0) at the length itself", exact.blockOf(0), 1);
        // one block a tick, however short the blocks are
        PeatRailway fast = Check.ring("railway" + ";block 1 0".repeat(10) + ";pull 1;pull 2;pull 3;train 0 1 5;ticks 1");
        Check.equal("blockOf(0) after one tick", fast.blockOf(0), 1);
        Check.equal("positionOf(0) after one tick", fast.positionOf(0), 0);
        // a train that has waited enters as soon as it may
        PeatRailway held = Check.ring("railway;block 5 0;block 5 0;train 0 1 5;ticks 3");
        held.pull(1);
        held.advance(1);
        Check.equal("blockOf(0) after it waited", held.blockOf(0), 1);
        Check.equal("waitsOf(0) after it waited", held.waitsOf(0), 3);
    }

    private static void waiting() {
        Edge.sentence("One tick", "Otherwise, if its position is the length of its block, it waits, and the number of its waits increases by 1.");
        PeatRailway x = Check.ring("railway;block 7 0;block 7 0;train 0 1 3;ticks 2");
        Check.equal("waitsOf(0) one below the length", x.waitsOf(0), 0);
        x.advance(1);
        Check.equal("waitsOf(0) when it comes to the end", x.waitsOf(0), 1);
        x.advance(1);
        Check.equal("waitsOf(0) at the end", x.waitsOf(0), 2);
        PeatRailway clear = Check.ring("railway;block 7 0;block 7 0;pull 1;train 1 1 1;train 0 1 5;ticks 2");
        Check.equal("waitsOf(1) before a train, the signal being clear", clear.waitsOf(1), 1);
        Check.equal("isClear(1) stays", clear.isClear(1), true);
        PeatRailway wagon = Check.ring("railway;block 5 9;pull 0;block 5 0;train 0 3 5;pull 1;ticks 3");
        Check.equal("waitsOf(0) before a lost wagon, the signal being clear", wagon.waitsOf(0), 2);
        Check.equal("isClear(0) stays", wagon.isClear(0), true);
        PeatRailway one = Check.ring("railway;block 5 0;pull 0;train 0 1 5;ticks 4");
        Check.equal("waitsOf(0) before its own block", one.waitsOf(0), 4);
        Check.equal("departuresFrom(0)", one.departuresFrom(0), 0);
    }

    private static void losingWagons() {
        Edge.sentence("One tick", "If the depth of the block is at least 7, the speed of the train in this block was at least 3, "
                + "and the train has more than one wagon, it loses a wagon, which stays in this block.");
        for (int depth = 0; depth <= 9; depth++) {
            for (int speed = 1; speed <= 5; speed++) {
                for (int wagons = 1; wagons <= 12; wagons++) {
                    boolean loses = depth >= 7 && speed >= 3 && wagons > 1;
                    String train = ";train 0 " + wagons + " ";
                    String when = " from depth " + depth + " at " + speed + " with " + wagons;
                    PeatRailway top = Check.ring("railway;block 1 " + depth + ";block 1 0" + train + speed + ";pull 1;ticks 1");
                    Check.equal("lostIn(0)" + when, top.lostIn(0), loses ? 1 : 0);
                    Check.equal("wagonsOf(0)" + when, top.wagonsOf(0), loses ? wagons - 1 : wagons);
                    Check.equal("lostIn(1)" + when, top.lostIn(1), 0);
                    PeatRailway bend = Check.ring("railway;block 1 " + depth + " bend " + speed + ";block 1 0" + train + "5;pull 1;ticks 1");
                    Check.equal("lostIn(0) of a bend" + when, bend.lostIn(0), loses ? 1 : 0);
                }
            }
        }
        PeatRailway next = Check.ring("railway;block 1 0;block 1 9;train 0 5 5;pull 1;ticks 1");
        Check.equal("lostIn(0), the next block being deep", next.lostIn(0), 0);
        PeatRailway slow = Check.ring("railway;block 1 7 bend 2;block 1 0;train 0 5 5;pull 1;ticks 1");
        Check.equal("lostIn(0) of a slow bend", slow.lostIn(0), 0);
        PeatRailway into = Check.ring("railway;block 1 7;block 1 0 bend 1;block 1 0;train 0 5 5;pull 1;ticks 1");
        Check.equal("lostIn(0) before a slow bend", into.lostIn(0), 1);
    }

    private static void sinking() {
        Edge.sentence("One tick", "Then the depth of the block increases by 1 plus the number of the remaining wagons of the train "
                + "divided by 4, but not above 9.");
        for (int depth = 0; depth <= 9; depth++) {
            for (int wagons = 1; wagons <= 12; wagons++) {
                for (int speed : new int[] {2, 3}) {
                    PeatRailway x = Check.ring("railway;block 1 " + depth + ";block 1 4;train 0 " + wagons + " " + speed + ";pull 1;ticks 1");
                    int remaining = depth >= 7 && speed == 3 && wagons > 1 ? wagons - 1 : wagons;
                    int quarter = remaining >= 12 ? 3 : remaining >= 8 ? 2 : remaining >= 4 ? 1 : 0;
                    Check.equal("depthOf(0) from " + depth + " by " + wagons, x.depthOf(0), Math.min(9, depth + 1 + quarter));
                    Check.equal("depthOf(1), which it has entered", x.depthOf(1), 4);
                }
            }
        }
        // at depth 7 the wagon that is lost no longer weighs
        Check.equal("depthOf(0) by 4 that lose one", Check.ring("railway;block 1 7;block 1 0;train 0 4 3;pull 1;ticks 1").depthOf(0), 8);
        Check.equal("depthOf(0) by 4 that lose none", Check.ring("railway;block 1 7;block 1 0;train 0 4 2;pull 1;ticks 1").depthOf(0), 9);
        Check.equal("depthOf(0) while the train waits", Check.ring("railway;block 1 7;block 1 0;train 0 4 2;ticks 9").depthOf(0), 7);
        // the depth counts from before it sinks: 6 does not lose a wagon
        Check.equal("lostIn(0) from 6 to 9", Check.ring("railway;block 1 6;block 1 0;train 0 8 5;pull 1;ticks 1").lostIn(0), 0);
    }

    private static void aroundTheRing() {
        Edge.sentence("Blocks", "the block after a block is the one with the next number, and block 0 comes after the last one.");
        for (int count = 2; count <= 10; count++) {
            PeatRailway x = Check.ring("railway" + ";block 1 0".repeat(count) + ";train 0 1 1");
            for (int step = 1; step <= 2 * count; step++) {
                x.pull(step % count);
                Check.equal("canEnter(0)", x.canEnter(0), true);
                x.advance(1);
                Check.equal("blockOf(0) after " + step + " steps in a ring of " + count, x.blockOf(0), step % count);
            }
            Check.equal("passages(0, " + (count - 1) + ")", x.passages(0, count - 1), 2);
        }
        PeatRailway one = Check.ring("railway;block 1 0;pull 0;train 0 1 1;ticks 9");
        Check.equal("blockOf(0) in a ring of one", one.blockOf(0), 0);
    }
}
