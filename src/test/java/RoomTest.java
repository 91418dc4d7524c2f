import java.lang.management.ManagementFactory;
import java.util.function.ToIntFunction;

/** What an object makes in its 512 calls stays far below the room that all calls of a run share. */
public final class RoomTest {
    /**
     * In so many bytes there are neither 600,000 objects (of sixteen at least) nor a third of 7.3 million elements
     * (of four at least); what the test itself makes counts, too, so this is on the safe side.
     */
    private static final long ROOM = 16L * 600000;

    /** 14,000 numbers of four bytes, as all rows of the program are: 7.3 million elements, parted among 512 calls. */
    private static final long CALL_ROOM = 4L * 14000;

    public static void main(String[] args) {
        measure("small calls", RoomTest::smallCalls);
        measure("dear calls", RoomTest::dearCalls);
        measure("many patterns", RoomTest::manyPatterns);
        measure("the longest stack", RoomTest::longestStack);
        measure("patterns that grow, from 86 on", () -> growingRepeats(86, 149));
        measure("patterns that grow, from 1 on", () -> growingRepeats(1, 489));
        measure("stacks that grow by assertions", RoomTest::growingAssertions);
        measure("stacks that grow with the subject", RoomTest::growingSubjects);
        measure("rows of threads that grow", RoomTest::growingThreads);
        measure("cuts that grow", RoomTest::growingCuts);
        measure("long patterns", RoomTest::longPatterns);
        measure("a long stack and long patterns", RoomTest::stackAndPatterns);
        measureLast("the first which()", 1, works -> works.it.which(1, false));
        measureLast("the first match() by the states", 0, works -> works.it.match(0, 0, 4, 0));
        measureLast("the first match() by the threads", 0, works -> works.it.match(0, 0, 1, 0));
        Works.finish("RoomTest");
    }

    private static long made() {
        com.sun.management.ThreadMXBean bean = (com.sun.management.ThreadMXBean) ManagementFactory.getThreadMXBean();
        return bean.getThreadAllocatedBytes(Thread.currentThread().getId());
    }

    private static void measure(String what, Runnable run) {
        long before = made();
        run.run();
        long bytes = made() - before;
        System.out.println(what + ": " + bytes + " bytes");
        Works.same(what + " stays within the room", bytes < ROOM ? 1 : 0, 1);
    }

    /** As issues told it: on a new object the empty pattern, and then a call whose machine was never used before. */
    private static void measureLast(String what, int due, ToIntFunction<Works> call) {
        Works works = new Works();
        Works.same("the empty pattern", works.it.compile(0, 0), 0);
        long before = made();
        int answer = call.applyAsInt(works);
        long bytes = made() - before;
        System.out.println(what + ": " + bytes + " bytes");
        Works.same(what + " answers", answer, due);
        Works.same(what + " makes its part of the room at most", bytes < CALL_ROOM ? 1 : 0, 1);
    }

    private static void smallCalls() {
        Works works = new Works();
        for (int i = 0; works.it.left() > 10; i++) {
            works.compile(i % 6, i % 32, "(a|b)*c");
            works.subject("xxabacab");
            works.it.match(i % 6, i % 3, i % 5, 0);
        }
    }

    private static void dearCalls() {
        Works works = new Works();
        works.subject("ab".repeat(1000));
        for (int slot = 0; slot < 6; slot++) {
            String told = works.compile(slot, slot * 2 & 16, "(?:(a)|(b)|(ab)|(ba)|(?:a??b??){60})*(c|)[^xyz]{1,5}|.{2}?");
            Works.same("groups", told, "5");
        }
        for (int i = 0; works.it.left() > 10; i++) {
            works.it.match(i % 6, i % 3, i % 5, i);
            works.it.all(i % 6);
            works.it.split(i % 6);
            works.it.which(63, i % 2 == 0);
            works.replaceLength(i % 6, "$0");
        }
    }

    private static void longestStack() {
        Works works = new Works();
        works.subject("a".repeat(2000));
        works.compile(0, 0, "(?:a(){97}(){97}())*b|a*?$");
        for (int machine = 0; machine < 5; machine++) {
            Works.same("by " + machine, works.match(0, 0, machine, 0), "0-2000 - - -");
            works.it.all(0);
            works.it.which(1, true);
        }
    }

    /** An object whose subject is so many twenties of bytes 0, which need not be fed. */
    private static Works zeros(int twenties) {
        Works works = new Works();
        for (int i = 0; i < twenties; i++) {
            works.it.end(20);
        }
        Works.same("the subject's length", works.it.subject(), 20 * twenties);
        return works;
    }

    /** As an issue told it: each pattern needs a little more of the stack than the one before. */
    private static void growingRepeats(int first, int calls) {
        Works works = zeros(100);
        for (int n = first; n <= 97; n++) {
            Works.same("groups at " + n, works.compile(0, 0, "(((?:){0," + n + "}){4}\0)*"), "2");
            Works.same("the match at " + n, works.it.match(0, 0, 0, 0), 2000);
        }
        Works.same("calls", Counted.CALLS - works.it.left(), calls);
    }

    /** Each pattern needs the stack both before and behind the first byte of the x that goes round. */
    private static void growingAssertions() {
        Works works = zeros(100);
        for (int n = 36; n <= 97; n++) {
            Works.same("groups at " + n, works.compile(0, 0, "(\\B{0," + n + "}\0??\\B{0," + n + "})*"), "1");
            Works.same("the match at " + n, works.it.match(0, 2, 0, 0), 2000);
        }
        works.compile(0, 0, "(((?:){0,97}){4}\0)*");
        Works.same("all matches", works.it.all(0), 1);
    }

    private static void growingSubjects() {
        Works works = new Works();
        works.compile(0, 0, "(((?:){0,97}){4}\0)*");
        for (int twenties = 1; works.it.left() > twenties + 8; twenties++) {
            for (int i = 0; i < twenties; i++) {
                works.it.end(20);
            }
            works.it.subject();
            for (int machine = 0; machine < 5; machine++) {
                Works.same("the match of " + twenties, works.it.match(0, 0, machine, 0), 20 * twenties);
            }
        }
    }

    private static void growingThreads() {
        Works works = new Works();
        works.subject("b".repeat(20));
        for (int n = 1; works.it.left() > 8; n++) {
            String pattern = "()".repeat(1 + n / 10 % 9) + "[ab]{" + (n % 60 + 1) + "}?";
            works.compile(0, 0, pattern);
            Works.same("by the threads " + n, works.it.match(0, 0, 1, 0), n % 60 + 1 <= 20 ? n % 60 + 1 : -1);
        }
    }

    private static void growingCuts() {
        Works works = new Works();
        works.subject("b".repeat(20));
        for (int n = 1; works.it.left() > 25; n++) {
            StringBuilder pattern = new StringBuilder();
            for (int i = 0; i <= n % 50; i++) {
                pattern.append((char) (200 + 2 * i)).append('|');
            }
            works.compile(0, 0, pattern + "b$");
            Works.same("by the states " + n, works.it.match(0, 0, 4, 0), 20);
            Works.same("which " + n, works.it.which(1, false), 1);
        }
    }

    /** Characters that have others alike make most: a part and rows of ranges for each byte. */
    private static void longPatterns() {
        Works works = new Works();
        Works.same("a pattern of 2000", works.compile(0, 1, "k".repeat(2000)), "fault 14 at -1");
        Works.same("another", works.compile(0, 1, "s|".repeat(1000)), "fault 14 at -1");
        Works.same("a third", works.compile(0, 1, "[^k]".repeat(250)), "fault 14 at -1");
    }

    private static void stackAndPatterns() {
        Works works = zeros(100);
        works.compile(0, 0, "(((?:){0,97}){4}\0)*");
        for (int machine = 0; machine < 5; machine++) {
            Works.same("by " + machine, works.it.match(0, 0, machine, 0), 2000);
        }
        Works.same("all", works.it.all(0), 1);
        Works.same("split", works.it.split(0), 2);
        Works.same("which", works.it.which(1, true), 1);
        for (int i = 0; works.it.left() > 60; i++) {
            Works.same("a long pattern", works.compile(i % 6, 1, "[^ks]k\\PL".repeat(50)), "fault 14 at -1");
        }
    }

    private static void manyPatterns() {
        Works works = new Works();
        for (int i = 0; works.it.left() > 10; i++) {
            works.compile(i % 6, 1, i % 2 == 0 ? "\\PL\\PL\\PL\\PL\\PL\\PL" : "abcdefghijklmnopqrst");
        }
    }
}
