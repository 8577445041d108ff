import com.sun.management.ThreadMXBean;
import java.lang.management.ManagementFactory;

/** The room of LANGUAGE.md: the rows are made by the constructor, the calls make nothing. */
public final class RoomTest {
    private static final long MOST_BYTES_OF_AN_OBJECT = 60_000;
    /** The machine itself makes something now and then; one object a call would be 8192 bytes at least. */
    private static final long MOST_BYTES_OF_512_CALLS = 4_000;

    private RoomTest() {
    }

    public static void main(String[] args) {
        for (int i = 0; i < 3; i++) {
            calls(new TicketScales());
        }
        ThreadMXBean bean = (ThreadMXBean) ManagementFactory.getThreadMXBean();
        long thread = Thread.currentThread().getId();
        long before = bean.getThreadAllocatedBytes(thread);
        TicketScales x = new TicketScales();
        long made = bean.getThreadAllocatedBytes(thread);
        calls(x);
        long called = bean.getThreadAllocatedBytes(thread);
        System.out.println("bytes of an object: " + (made - before) + ", of 512 calls: " + (called - made));
        Due.isTrue("an object is small", made - before <= MOST_BYTES_OF_AN_OBJECT);
        Due.isTrue("calls make nothing", called - made <= MOST_BYTES_OF_512_CALLS);
        Due.end();
    }

    /** 512 calls, each method among them. */
    private static void calls(TicketScales x) {
        for (int round = 0; round < 8; round++) {
            actions(x);
            program(x);
            looks(x);
            readings(x);
        }
    }

    private static void actions(TicketScales x) {
        x.setKind(1, 150, 5);
        x.setScale(10, 20);
        x.setBias(3);
        x.setRule(2);
        x.setFee(9);
        x.come(500);
        x.come(50);
        x.weigh(0, 1, 400, 90);
        x.weigh(1, 0, 400, 90);
        x.claim(0, 401);
        x.addPrize(1, 10, 50, 30, 20);
        x.addPrize(2, 10, 50, 30, 20);
        x.setPrice(0, 3);
        x.buy(0, 0, 20);
        x.take(0);
        x.take(1);
        x.leave(1);
        x.removePrize(1);
        x.restore(0);
        x.undo();
    }

    private static void program(TicketScales x) {
        char[] text = {'b', 'u', 'y', ' ', '0', ' ', '0', ' ', '1', ';'};
        for (char sign : text) {
            x.append(sign);
        }
        x.run();
        x.run();
        x.clearText();
        x.failure(0);
    }

    private static void looks(TicketScales x) {
        for (int what = 0; what < 14; what++) {
            x.count(what);
        }
        x.kind(0, 1);
        x.customer(0, 3);
        x.prize(0, 5);
    }

    private static void readings(TicketScales x) {
        x.read(1234);
        x.allowed(60000, 1, 2);
        x.guess(60000, 1, 0);
        x.apartUpTo(0);
        x.bestStep(1, 3);
        x.mixed(0, 1, 3000, 1);
        x.would(1);
        x.fairest();
        x.soldOut(0);
        x.shop(0, 2);
        x.shop(-1, 2);
        x.read(-9999);
        x.undo();
    }
}
