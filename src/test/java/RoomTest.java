import java.lang.management.ManagementFactory;

/** All calls of a run live in one small room: an object is small, and no call makes anything. */
public final class RoomTest {
    private static final long MOST_OF_AN_OBJECT = 40000;
    /** An object is used for 512 calls; each use has some fifty. */
    private static final int USES = 9;
    private static final Check check = new Check();
    private static final com.sun.management.ThreadMXBean ROOM =
            (com.sun.management.ThreadMXBean) ManagementFactory.getThreadMXBean();

    public static void main(String[] args) {
        // Once for the machine, which makes things of its own when a class is new to it.
        for (int i = 0; i < 20; i++) {
            use(new PeasDrum());
        }
        long object = Long.MAX_VALUE;
        long byCalls = Long.MAX_VALUE;
        // The least of some tries, as the machine may make something of its own at any time.
        for (int i = 0; i < 5; i++) {
            long before = made();
            PeasDrum x = new PeasDrum();
            object = Math.min(object, made() - before);
            byCalls = Math.min(byCalls, Math.max(0, byCalls(x) - byAsking()));
        }
        check.isTrue("an object takes " + object + " bytes at most", object <= MOST_OF_AN_OBJECT);
        check.due("bytes made by calls", byCalls, 0);
        check.end();
    }

    private static long byCalls(PeasDrum x) {
        long before = made();
        for (int i = 0; i < USES; i++) {
            use(x);
        }
        return made() - before;
    }

    private static long byAsking() {
        long before = made();
        return made() - before;
    }

    private static long made() {
        return ROOM.getThreadAllocatedBytes(Thread.currentThread().getId());
    }

    private static long use(PeasDrum x) {
        long sum = x.ground(5, 1) + x.wall(6, true) + x.cellOf(5, 2) + x.walls() + x.far(0, 47);
        sum += x.gallery(3, 0, 9, 1) + x.gallery(0, 1, 40, 1) + x.of(0, 2) + x.turn(0, 2);
        sum += x.become(0, 5) + x.as(0, 1) + x.does(0, 5, 0) + x.nights(1) + x.now(1);
        sum += x.image() + x.on(0, 9) + x.lost(0) + x.first() + x.comes(1, 7) + x.meets(1, 0);
        sum += x.whose(0) + x.dish(20) + x.move(0, 21) + x.peas(0) + x.hears(0, 0) + x.where(5);
        sum += x.best(5) + x.falls(9, 9) + x.blow(30, 9) + x.mine(9) + x.bread(0, 500);
        sum += x.lasts() + x.ration(9) + x.wipe() + x.feed('d' << 24 | 'i' << 16 | 's' << 8 | 'h', 4);
        sum += x.feed(' ' << 8 | '7', 2) + x.siege() + x.sheet(0, 8, 9) + x.write(0, 1, 2);
        sum += x.copy(0, 1, 0, 2, 3) + x.lays(0, 9) + x.book(0) + x.read(0) + x.undo();
        return sum + x.image() + x.tear() + x.count(0) + x.status(-1) + x.status(9);
    }
}
