import com.sun.management.ThreadMXBean;
import java.lang.management.ManagementFactory;

/**
 * How much an object and its calls make. All calls of a run live in one room of some 600,000 objects and 7.3 million
 * fields and elements; of four bytes each, a tenth of that is less than 3 million bytes for an object with 512 calls.
 */
public final class RoomTest extends Checks {
    private static final ThreadMXBean THREADS = (ThreadMXBean) ManagementFactory.getThreadMXBean();
    private static final int MOST_OF_AN_OBJECT = 60000;
    private static final int MOST_OF_A_CALL = 200;
    private static final int TIMES = 10;

    private static KerbSplash kept;

    private static long made() {
        return THREADS.getThreadAllocatedBytes(Thread.currentThread().getId());
    }

    /** The least of several times: what the machine itself makes comes in some of them only. */
    private static void makesAtMost(int most, String what, Call call) {
        long least = Long.MAX_VALUE;
        for (int i = 0; i < TIMES; i++) {
            long before = made();
            call.answer();
            least = Math.min(least, made() - before);
        }
        due(what + " made " + least + " bytes: " + most + " at most", least <= most ? 1 : 0, 1);
    }

    private static int makeOne() {
        kept = new KerbSplash();
        return 0;
    }

    private static KerbSplash full() {
        KerbSplash k = with("size 5 2;high 1 0 40;" + "drain 3 1 8 8;".repeat(6) + "person 1 3;".repeat(8)
            + "shelter 2 3;clear 0 9;lower 3 1 20 4;" + "bore 1 0 5 7;".repeat(6),
            "throw=8;reach=if [depth>1 or not pace<2] and 1=1 then 9 else 1;wet=9;slow=1;out=1;");
        rain(k, "rain 20 3;");
        for (int i = 0; i < 20; i++) {
            k.traffic(1, 0, 30, 1, i % 4);
        }
        for (int i = 0; i < 9; i++) {
            k.dip(10 - i, 1 + i, 20);
        }
        k.minutes(2, 3);
        return k;
    }

    private static void texts() {
        KerbSplash k = new KerbSplash();
        makesAtMost(MOST_OF_A_CALL, "feed and street", () -> k.feed(0x73697a65, 0x20322031, 0x3b686967, 0x68203120,
            0x3020373b) + k.street(20));
        makesAtMost(MOST_OF_A_CALL, "feed and a faulty rain", () -> k.feed(0, 0, 0, 0, 0) + k.rain(1));
        makesAtMost(MOST_OF_A_CALL, "feed and a faulty law", () -> k.feed(0, 0, 0, 0, 0) + k.law(1));
    }

    private static void calls() {
        KerbSplash k = full();
        makesAtMost(MOST_OF_A_CALL, "shower", () -> k.shower(0));
        makesAtMost(MOST_OF_A_CALL, "car", () -> k.car(0, 0, 30, 1, 2));
        makesAtMost(MOST_OF_A_CALL, "pass", () -> k.pass(0));
        makesAtMost(MOST_OF_A_CALL, "deep", () -> k.deep(0, 1, 0));
        makesAtMost(MOST_OF_A_CALL, "when", () -> k.when(0, 1, 0, 9999));
        makesAtMost(MOST_OF_A_CALL, "blame", () -> k.blame(0, 1, 0, 0));
        makesAtMost(MOST_OF_A_CALL, "look", () -> k.look(0, 0));
        makesAtMost(MOST_OF_A_CALL, "stand", () -> k.stand(0, 19, 0));
        makesAtMost(MOST_OF_A_CALL, "pace", () -> k.pace(0, 0, 1, 0));
        makesAtMost(MOST_OF_A_CALL, "moved", () -> k.moved(0, 0));
        makesAtMost(MOST_OF_A_CALL, "mend", () -> k.mend(0, 1, 0, 0, 0));
        makesAtMost(MOST_OF_A_CALL, "meant", () -> k.meant(0, 1, 0, 30, 0, 30, 1));
        makesAtMost(MOST_OF_A_CALL, "town", () -> k.town(2));
        makesAtMost(MOST_OF_A_CALL, "sweep", () -> k.sweep(1));
        makesAtMost(MOST_OF_A_CALL, "image and restore", () -> k.image() + k.restore());
    }

    public static void main(String[] args) {
        about = "room";
        makesAtMost(MOST_OF_AN_OBJECT, "a new object", RoomTest::makeOne);
        due("a new object's count(3)", kept.count(3), 0);
        texts();
        calls();
        end("what an object and its calls make");
    }
}
