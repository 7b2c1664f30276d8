import java.lang.management.ManagementFactory;

/** What calls make is counted: none but the constructor, and the first image of each number, may make objects. */
public final class RoomUse {
    private static final com.sun.management.ThreadMXBean BEAN = (com.sun.management.ThreadMXBean) ManagementFactory.getThreadMXBean();
    private static int sum = 0;

    private static void calls(BillRegistry x) {
        x.feed(0x6f70656e, 0x20302031, 0x20322039, 0x2039393b, 0x64617920);
        x.feed(0x313b6461, 0x7920313b, 0x20202020, 0x20202020, 0x20202020);
        sum += x.text(true);
        sum += x.draw(0, 1, 12, 50, 0);
        for (int i = 0; i < 6; i++) {
            sum += x.forge(0, 7, 3 + i % 2, i % 2, false);
            sum += x.pass(0, 0, 5 + i % 2, 0, false);
        }
        sum += x.present(0) + x.tell(0, -1, 1) + x.defend(0, 1, true) + x.release(0, 1) + x.pay(0, 1) + x.find(0, 1);
        for (int what = 0; what < 20; what++) {
            sum += x.bill(0, what) + x.count(what) + x.step(0, 1, what) + x.party(0, 1, what) + x.why(0, 1, 1, what);
        }
        sum += x.liable(0) + x.reach(0) + x.run(0, -1) + x.gains(0, 1) + x.ends(0) + x.owes(0) + x.worth(0) + x.until(0, 1) + x.sorts(0, 5);
        sum += (x.image(0) ? 1 : 0) + (x.image(1) ? 1 : 0) + (x.image(2) ? 1 : 0) + (x.again(1) ? 1 : 0);
    }

    private static long allocated() {
        return BEAN.getThreadAllocatedBytes(Thread.currentThread().getId());
    }

    public static void main(String[] args) {
        BillRegistry x = new BillRegistry();
        calls(x);
        allocated();
        long before = allocated();
        for (int i = 0; i < 1000; i++) {
            calls(x);
        }
        long made = allocated() - before;
        before = allocated();
        BillRegistry[] kept = new BillRegistry[100];
        for (int i = 0; i < 100; i++) {
            kept[i] = new BillRegistry();
        }
        long each = (allocated() - before) / kept.length;
        System.out.println(made + " bytes made by 1000 rounds of calls, " + each + " by a constructor");
        if (made > 100_000 || each > 20_000) {
            System.out.println("too much is made");
            System.exit(1);
        }
    }
}
