import java.lang.management.ManagementFactory;

/** All calls of a run live in one room: a call makes nothing, and an object is made once and small. */
public final class RoomTest {
    private static final com.sun.management.ThreadMXBean THREADS =
            (com.sun.management.ThreadMXBean) ManagementFactory.getThreadMXBean();

    public static void main(String[] args) {
        // the first round loads what the machine itself needs
        round(new PeatRailway());
        PeatRailway[] ready = new PeatRailway[100];
        for (int index = 0; index < ready.length; index++) {
            ready[index] = new PeatRailway();
        }
        long before = made();
        for (PeatRailway x : ready) {
            round(x);
        }
        long calls = made() - before;
        System.out.println("bytes made by 100 rounds of calls: " + calls);
        Check.equal("100 rounds of calls make less than 64 KB", calls < 65536, true);
        PeatRailway[] many = new PeatRailway[100];
        before = made();
        for (int index = 0; index < many.length; index++) {
            many[index] = new PeatRailway();
        }
        long each = (made() - before) / many.length;
        System.out.println("bytes made by one object: " + each);
        Check.equal("one object takes less than 32 KB", each < 32768, true);
        Check.end();
    }

    private static long made() {
        return THREADS.getThreadAllocatedBytes(Thread.currentThread().getId());
    }

    private static void round(PeatRailway x) {
        x.append(0x7261696c, 0x7761793b, 0x626c6f63, 0x6b203520, 0x39203b62);
        x.append(0x6c6f636b, 0x20352030, 0x3b747261, 0x696e2030, 0x20352035);
        x.load(40);
        x.pull(1);
        x.save(0);
        x.save(1);
        for (int times = 0; times < 12; times++) {
            x.advance(1);
            x.blockAfter(0, 200);
            x.ticksUntilWait(0);
            x.setTopSpeed(0, 5);
            x.removeWagons(0);
            x.repair(0);
            x.restore(1);
            x.setDanger(1);
            x.pull(1);
            x.addWagons(0, 1);
            x.undo();
        }
        x.writeRing();
        x.writeTrain(0);
        x.outputByte(3);
        x.meanDepth();
        x.waitShare();
        x.wagonDifference();
        x.sharedBlocks();
        x.differentPassages();
    }
}
