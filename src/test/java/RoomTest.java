import java.lang.management.ManagementFactory;

/** The room that calls take: rows are made once, so the dearest calls make next to nothing. */
final class RoomTest {
    private static final int CALLS = 512;
    // a StringBuilder's letters and an exception now and then, far below the 600,000 objects of a run
    private static final long MOST_BYTES_A_CALL = 400;
    private static final long MOST_BYTES_A_HOUSE = 40_000;

    public static void main(String[] args) {
        dearCalls();
        reads();
        houses();
        Checks.close("RoomTest");
    }

    private static long bytesMade() {
        return ((com.sun.management.ThreadMXBean) ManagementFactory.getThreadMXBean())
                .getThreadAllocatedBytes(Thread.currentThread().getId());
    }

    private static void bytes(String what, long before, long times, long most) {
        long each = (bytesMade() - before) / times;
        Checks.yes(what + " made " + each + " bytes, at most " + most, each <= most);
    }

    private static WillHouse full() {
        return Checks.house("thing t 99;cash 9999;months 24;child a;child b;issue c of a;issue d of a;issue e of b;",
                "issue f of b;issue g of c;issue h of c;issue i of d;issue j of d;issue k of e;issue l of e;dead a;",
                "give t to a;sum 99 to b;sum 9 to c;sum 9 to a;sum 9 to a;sum 9 to a;sum 9 to a;sum 9 to a;rest 1 to a;");
    }

    private static void dearCalls() {
        WillHouse house = full();
        house.envied(2);
        house.write(2);
        long before = bytesMade();
        for (int i = 0; i < CALLS; i++) {
            house.envied(2);
        }
        bytes("envied", before, CALLS, MOST_BYTES_A_CALL);
        before = bytesMade();
        for (int i = 0; i < CALLS; i++) {
            house.set(0, i);
            house.write(2);
            house.undo();
        }
        bytes("write", before, CALLS, MOST_BYTES_A_CALL);
    }

    private static void reads() {
        WillHouse house = new WillHouse();
        house.read();
        long before = bytesMade();
        for (int i = 0; i < CALLS; i++) {
            // "child a ; child b ; "
            house.feed(0x6368696c, 0x64206120, 0x3b206368, 0x696c6420, 0x62203b20);
            house.read();
        }
        bytes("read", before, CALLS, MOST_BYTES_A_CALL);
        Checks.same("persons", house.count(1), 2);
    }

    private static void houses() {
        WillHouse first = new WillHouse();
        long before = bytesMade();
        for (int i = 0; i < CALLS; i++) {
            Checks.no("the same", new WillHouse().end(first.count(6)));
        }
        bytes("a house", before, CALLS, MOST_BYTES_A_HOUSE);
    }
}
