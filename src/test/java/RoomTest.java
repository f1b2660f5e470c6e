import com.sun.management.ThreadMXBean;
import java.lang.management.ManagementFactory;

/** What calls make stays little: all calls of a run live in one room, and nothing made is given back. */
public final class RoomTest {
    private static final Check CHECK = new Check("RoomTest");
    private static final ThreadMXBean MADE = (ThreadMXBean) ManagementFactory.getThreadMXBean();
    /** With those that Check.full() takes it stays within the 512 calls of an object. */
    private static final int CALLS = 200;
    private static long sum;

    /** A call that boxes nothing, so that what is made is made by the object alone. */
    private interface Call {
        long on(Shortnumbers x);
    }

    public static void main(String[] args) {
        makes("an object", 2000, x -> new Shortnumbers().knock());
        makes("text(0) of 20 signs", 400, x -> x.text(0).length());
        makes("unsignedShort(0)", 200, x -> x.unsignedShort(0).length());
        makes("unsignedByte(0)", 200, x -> x.unsignedByte(0).length());
        makes("digest()", 0, Shortnumbers::digest);
        makes("isSound()", 0, x -> x.isSound() ? 1 : 0);
        makes("writeShort(0, 1, 2)", 0, x -> x.writeShort(0, 1, 2));
        makes("writeFlag(0, 1)", 0, x -> x.writeFlag(0, 1));
        makes("parseShortBy(1, 1, 2)", 0, x -> x.parseShortBy(1, 1, 2));
        makes("decodeByte(1, 0)", 0, x -> x.decodeByte(1, 0));
        makes("parseFlag(1, 0)", 0, x -> x.parseFlag(1, 0) ? 1 : 0);
        makes("clear(3) and write(3, 65)", 0, x -> x.clear(3) + x.write(3, 65));
        makes("join(0, 1, 2, 2)", 0, x -> x.join(0, 1, 2, 2) ? 1 : 0);
        CHECK.due("whether the calls have answered", sum != 0, true);
        CHECK.end();
    }

    /** A few bytes are left to the machine itself: far fewer than an object a call would come to. */
    private static void makes(String call, int most, Call asking) {
        Shortnumbers x = Check.full();
        sum += asking.on(x);
        long before = MADE.getThreadAllocatedBytes(Thread.currentThread().getId());
        for (int count = 0; count < CALLS; count++) {
            sum += asking.on(x);
        }
        long bytes = MADE.getThreadAllocatedBytes(Thread.currentThread().getId()) - before;
        boolean isLittle = bytes <= (long) most * CALLS + CALLS * 4L;
        CHECK.due(call + " makes at most " + most + " bytes", isLittle ? "at most that" : bytes / CALLS, "at most that");
    }
}
