import java.lang.management.ManagementFactory;

/** What an object makes in its 512 calls stays far below the room that all calls of a run share. */
public final class RoomTest {
    /** 7.3 million elements of four bytes; rows and objects have heads besides, so this is on the safe side. */
    private static final long ROOM = 4L * 7300000;

    public static void main(String[] args) {
        measure("small calls", RoomTest::smallCalls);
        measure("dear calls", RoomTest::dearCalls);
        measure("many patterns", RoomTest::manyPatterns);
        measure("the longest stack", RoomTest::longestStack);
        Works.finish("RoomTest");
    }

    private static long made() {
        com.sun.management.ThreadMXBean bean = (com.sun.management.ThreadMXBean) ManagementFactory.getThreadMXBean();
        return bean.getThreadAllocatedBytes(Thread.currentThread().getId());
    }

    private static void measure(String what, Runnable run) {
        long before = made();
        run.run();
        long bytes = made() - before;
        System.out.println(what + ": " + bytes + " bytes");
        Works.same(what + " stays within the room", bytes < ROOM ? 1 : 0, 1);
    }

    private static void smallCalls() {
        Works works = new Works();
        for (int i = 0; works.it.left() > 10; i++) {
            works.compile(i % 6, i % 32, "(a|b)*c");
            works.subject("xxabacab");
            works.it.match(i % 6, i % 3, i % 5, 0);
        }
    }

    private static void dearCalls() {
        Works works = new Works();
        works.subject("ab".repeat(1000));
        for (int slot = 0; slot < 6; slot++) {
            String told = works.compile(slot, slot * 2 & 16, "(?:(a)|(b)|(ab)|(ba)|(?:a??b??){60})*(c|)[^xyz]{1,5}|.{2}?");
            Works.same("groups", told, "5");
        }
        for (int i = 0; works.it.left() > 10; i++) {
            works.it.match(i % 6, i % 3, i % 5, i);
            works.it.all(i % 6);
            works.it.split(i % 6);
            works.it.which(63, i % 2 == 0);
            works.replaceLength(i % 6, "$0");
        }
    }

    private static void longestStack() {
        Works works = new Works();
        works.subject("a".repeat(2000));
        works.compile(0, 0, "(?:a(){97}(){97}())*b|a*?$");
        for (int machine = 0; machine < 5; machine++) {
            Works.same("by " + machine, works.match(0, 0, machine, 0), "0-2000 - - -");
            works.it.all(0);
            works.it.which(1, true);
        }
    }

    private static void manyPatterns() {
        Works works = new Works();
        for (int i = 0; works.it.left() > 10; i++) {
            works.compile(i % 6, 1, i % 2 == 0 ? "\\PL\\PL\\PL\\PL\\PL\\PL" : "abcdefghijklmnopqrst");
        }
    }
}
