import java.lang.management.ManagementFactory;

/**
 * What runs of 512 dear calls make, in bytes, held against the room of 7.3 million fields and elements (8 bytes each
 * at the most) that all calls of a run share. The bound is a tenth of that.
 */
public final class RoomTest {
    private static final long BOUND = 7_300_000L * 8 / 10;
    private static int wrong;

    private static long made() {
        com.sun.management.ThreadMXBean bean = (com.sun.management.ThreadMXBean) ManagementFactory.getThreadMXBean();
        return bean.getThreadAllocatedBytes(Thread.currentThread().getId());
    }

    private static void dearCall(OrderAlgebra x, int kind, int i) {
        int a = i % 16;
        int b = 15 - i / 16 % 16;
        switch (kind) {
            case 0: x.sets(1, 0); x.form(0, 0, 0); break;
            case 1: x.sets(0, 0); x.form(0, 0, 0); break;
            case 2: x.count(6); x.form(0, 0, 0); break;
            case 3: x.make(0, 2); x.raise(1, 0, 20); x.invert(2, 0); break;
            case 4: x.moebius(a, b, i % 4); x.chains(a, b, -1); x.multichains(a, b, 30); break;
            case 5: x.keep(i % 2); x.point(a, b); x.mapped(2); x.side(a, b, 1); break;
            case 6: x.count(13); x.count(14); x.reduced(0, a); x.split(a, a, b); break;
            case 7: x.data(a, i); x.summed(a, 0); x.gotBack(b, 1); x.undo(); break;
            default: x.relate(a, b); x.undo(); x.coefficient(i % 5); break;
        }
    }

    private static void run(String text, int kind) {
        long before = made();
        OrderAlgebra x = new OrderAlgebra();
        Texts.write(x, text);
        x.tell();
        for (int i = 0; i < 512; i++) {
            dearCall(x, kind, i);
        }
        long bytes = made() - before;
        if (bytes > BOUND) {
            wrong++;
            System.out.println("'" + text + "', calls of kind " + kind + ": " + bytes + " bytes");
        }
    }

    public static void main(String[] args) {
        String crossed = "free 16;0<8;0<9;1<9;1<10;2<10;2<11;3<11;3<12;4<12;4<13;5<13;5<14;6<14;6<15;7<15";
        for (String text : new String[] {"free 16", "chain 16", "cube 4", "parts 4", "divisors 120", crossed}) {
            for (int kind = 0; kind < 9; kind++) {
                run(text, kind);
            }
        }
        System.out.println(wrong == 0 ? "all runs stay within the room" : wrong + " runs are too dear");
        if (wrong != 0) {
            System.exit(1);
        }
    }
}
