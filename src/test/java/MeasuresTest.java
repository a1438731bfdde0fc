/** Promises 36 to 42: the measures. */
public final class MeasuresTest {
    public static void main(String[] args) {
        wagons();
        meanDepth();
        waitShare();
        Check.end();
    }

    private static void wagons() {
        PeatRailway none = Check.ring("railway;block 5 9");
        Check.equal("totalWagons() of none", none.totalWagons(), 0);
        Check.equal("lostWagons() of none", none.lostWagons(), 0);
        Check.equal("removedWagons() of none", none.removedWagons(), 0);
        Check.equal("sharedBlocks() of none", none.sharedBlocks(), 0);
        Check.equal("wagonDifference() of none", none.wagonDifference(), 0);
        PeatRailway x = Check.ring("railway;block 5 9;block 5 8;block 5 0;block 5 0;train 1 12 5;train 0 3 5;"
                + "pull 2;ticks 1");
        sums(x, "one lost", 14, 1, 0);
        x.removeWagons(1);
        sums(x, "one taken away", 14, 0, 1);
        x.addWagons(1, 9);
        sums(x, "nine added", 23, 0, 1);
        x.pull(1);
        x.pull(3);
        x.advance(1);
        sums(x, "two lost", 22, 1, 1);
        x.removeWagons(0);
        sums(x, "two taken away", 22, 0, 2);
        x.removeWagons(0);
        sums(x, "none more", 22, 0, 2);
        x.undo();
        x.undo();
        sums(x, "undone", 22, 1, 1);
        x.undo();
        x.undo();
        x.undo();
        x.undo();
        sums(x, "all but one undone", 14, 0, 1);
        x.save(0);
        x.addWagons(1, 2);
        x.restore(0);
        sums(x, "restored", 14, 0, 1);
        x.undo();
        sums(x, "the restoring undone", 16, 0, 1);
        // two blocks may hold lost wagons at once
        PeatRailway y = Check.ring("railway;block 5 9;block 5 9;block 5 0;train 0 5 5;pull 1;ticks 1;pull 2;ticks 1");
        sums(y, "two at once", 3, 2, 0);
        y.removeWagons(1);
        y.removeWagons(0);
        sums(y, "both taken away", 3, 0, 2);
    }

    private static void sums(PeatRailway x, String when, int total, int lost, int removed) {
        Check.equal("totalWagons(), " + when, x.totalWagons(), total);
        Check.equal("lostWagons(), " + when, x.lostWagons(), lost);
        Check.equal("removedWagons(), " + when, x.removedWagons(), removed);
        Check.equal("sharedBlocks(), " + when, x.sharedBlocks(), 0);
        Check.equal("wagonDifference(), " + when, x.wagonDifference(), 0);
    }

    private static void meanDepth() {
        Check.exact("meanDepth() without blocks", Check.ring("railway").meanDepth(), 0.0);
        Check.exact("meanDepth() of one", Check.ring("railway;block 1 9").meanDepth(), 9.0);
        Check.exact("meanDepth() of three", Check.ring("railway;block 1 9;block 1 0;block 1 1").meanDepth(), 10.0 / 3.0);
        Check.exact("meanDepth() of a new object", new PeatRailway().meanDepth(), 19.0 / 4.0);
        Check.exact("meanDepth() of zeros", Check.ring("railway;block 1 0;block 1 0").meanDepth(), 0.0);
    }

    private static void waitShare() {
        Check.exact("waitShare() without anything", Check.ring("railway").waitShare(), 0.0);
        Check.exact("waitShare() without trains", Check.ring("railway;block 1 0;ticks 5").waitShare(), 0.0);
        Check.exact("waitShare() at tick 0", Check.ring("railway;block 1 0;train 0 1 1").waitShare(), 0.0);
        Check.exact("waitShare() of always", Check.ring("railway;block 1 0;train 0 1 1;ticks 7").waitShare(), 1.0);
        Check.exact("waitShare() of a new object", new PeatRailway().waitShare(), 3.0f / 6.0f);
        PeatRailway x = Check.ring("railway;block 1 0;block 5 0;block 5 0;train 0 1 1;train 1 1 1;train 2 1 2;ticks 7");
        Check.equal("waits of all", x.waitsOf(0) + x.waitsOf(1) + x.waitsOf(2), 15);
        Check.exact("waitShare() of three", x.waitShare(), 15.0f / 21.0f);
        // a train that came late counts for all ticks
        Check.exact("waitShare() of a late train",
                Check.ring("railway;block 1 0;ticks 6;train 0 1 1;ticks 1").waitShare(), 1.0f / 7.0f);
    }
}
