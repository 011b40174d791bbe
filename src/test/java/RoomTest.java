import java.lang.management.ManagementFactory;

/** The room of a run: of the dearest calls as many as an object is used for make less than all calls of a run may make. */
final class RoomTest {
    private static final int CALLS = 512;
    // 7.3 million fields and elements of four bytes
    private static final long MOST_BYTES = 29_200_000;

    public static void main(String[] args) {
        Checks.yes("some bytes are made", bytesMade() > 0);
        run("envied", house -> house.envied(2));
        run("ranked", house -> house.ranked(11));
        run("write", house -> house.write(2));
        run("leastDebt", house -> house.leastDebt(4));
        run("needed", house -> house.needed(4));
        run("ifHeld", house -> house.ifHeld(0));
        run("set", house -> house.set(0, 5));
        reads();
        wrongReads();
        Checks.close("RoomTest");
    }

    private interface Call {
        int of(WillHouse house);
    }

    private static long bytesMade() {
        return ((com.sun.management.ThreadMXBean) ManagementFactory.getThreadMXBean())
                .getThreadAllocatedBytes(Thread.currentThread().getId());
    }

    private static void few(String what, long before) {
        long made = bytesMade() - before;
        Checks.yes("a run of " + what + " made " + made + " bytes, at most " + MOST_BYTES, made <= MOST_BYTES);
    }

    private static void run(String what, Call call) {
        long before = bytesMade();
        WillHouse house = Checks.house("thing t 99;cash 9999;months 24;child a;child b;issue c of a;issue d of a;issue e of b;",
                "issue f of b;issue g of c;issue h of c;issue i of d;issue j of d;issue k of e;issue l of e;dead a;",
                "give t to a;sum 99 to b;sum 9 to c;sum 9 to a;sum 9 to a;sum 9 to a;sum 9 to a;sum 9 to a;rest 1 to a;");
        for (int calls = 22; calls < CALLS; calls++) {
            call.of(house);
        }
        few(what, before);
    }

    /** "child a ; child b ; " and so on, filling the TAPE. */
    private static void feedAll(WillHouse house, int lastFour) {
        house.feed(0x6368696c, 0x64206120, 0x3b206368, 0x696c6420, 0x62203b20);
        for (int times = 1; times < 20; times++) {
            house.feed(0x20202020, 0x20202020, 0x20202020, 0x20202020, times < 19 ? 0x20202020 : lastFour);
        }
    }

    private static void reads() {
        long before = bytesMade();
        WillHouse house = new WillHouse();
        for (int calls = 21; calls < CALLS; calls += 21) {
            feedAll(house, 0x20202020);
            house.read();
        }
        few("read", before);
        Checks.same("persons", house.count(1), 2);
    }

    private static void wrongReads() {
        long before = bytesMade();
        WillHouse house = new WillHouse();
        for (int calls = 21; calls < CALLS; calls += 21) {
            feedAll(house, 0x2020203f);
            Checks.same("read", Answers.outcome(house::read), "throws java.lang.IllegalArgumentException");
        }
        few("wrong read", before);
        Checks.same("fault", house.fault(), 399);
    }
}
