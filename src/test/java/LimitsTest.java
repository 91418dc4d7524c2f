import java.util.Random;
import java.util.Set;

/** Long patterns, long subjects and steep repeats: nothing breaks, the machines agree, and no call is over. */
public final class LimitsTest {
    private static final Random CHANCE = new Random(7);
    /** Of the calls that are made by chance, those that the face lets throw. */
    private static final Set<Integer> REFUSING = Set.of(7, 9, 10, 15, 16, 20, 21, 22, 23);

    public static void main(String[] args) {
        steepRepeats();
        longClasses();
        longPatterns(args.length > 0 ? Integer.parseInt(args[0]) : 300);
        deepStacks();
        anyCalls(args.length > 0 ? Integer.parseInt(args[0]) : 200);
        machinesAgreeOnLongSubjects(args.length > 0 ? Integer.parseInt(args[0]) : 60);
        Works.finish("LimitsTest");
    }

    private static void steepRepeats() {
        Works works = new Works();
        StringBuilder nothing = new StringBuilder();
        StringBuilder much = new StringBuilder("a");
        for (int i = 0; i < 30; i++) {
            nothing.insert(0, "(?:").append("){100}");
            much.insert(0, "(?:").append("){100}");
        }
        Works.same("nothing a hundred times a hundred ..", works.compile(0, 0, nothing.toString()), "0");
        Works.same("its size", works.it.about(0, 1), 0);
        works.subject("xy");
        Works.same("it matches nothing", works.match(0, 0, 0, 1), "1-1");
        Works.same("a hundred times a hundred ..", works.compile(0, 0, much.toString()), "fault 14 at -1");
        Works.same("and none of that", works.compile(0, 0, "(?:" + much.substring(3, much.length() - 6) + "){0}b"), "0");
        Works.same("its size", works.it.about(0, 1), 1);
        Works.same("400", works.compile(1, 0, "a{100}a{100}a{100}a{100}"), "0");
        Works.same("401", works.compile(1, 0, "a{100}a{100}a{100}a{100}a"), "fault 14 at -1");
        Works.same("what was there stays", works.it.about(1, 1), 400);
        Works.same("stars of nothing", works.compile(1, 0, "(?:(?:(?:(?:|a)*)*)*)*?(?:\\b*){0,100}"), "0");
    }

    private static void longClasses() {
        StringBuilder wide = new StringBuilder("[");
        for (int i = 0; i < 990; i++) {
            wide.append((char) (0x80 + 2 * i % 1900));
        }
        Works.same("a class of many ranges", new Works().compile(0, 1, wide + "]"), "fault 14 at -1");
        Works.same("the same, never", new Works().compile(0, 1, wide + "]{0}"), "0");
        StringBuilder many = new StringBuilder();
        for (int i = 0; i < 660; i++) {
            many.append("\\PL");
        }
        Works.same("many classes", new Works().compile(0, 0, many.toString()), "fault 14 at -1");
        Works.same("the same, never", new Works().compile(0, 0, "(?:" + many + "){0}"), "0");
        Works works = new Works();
        Works.same("98 ranges", works.compile(0, 0, "[" + wide.substring(1, 99) + "]"), "0");
        Works.same("their size", works.it.about(0, 1), 2 + 4 * 98);
        works.subject("\u0081\u0080\u0142");
        sameByAll(works, 0, "98 ranges");
        Works.same("one of them", works.match(0, 0, 4, 0), "2-4");
        Works.same("one of them", works.it.which(1, false), 1);
        Works.same("not whole", works.it.which(1, true), 0);
    }

    private static String chance(int length, String... of) {
        StringBuilder all = new StringBuilder();
        while (all.length() < length) {
            all.append(of[CHANCE.nextInt(of.length)]);
        }
        return all.toString();
    }

    private static void longPatterns(int rounds) {
        for (int i = 0; i < rounds; i++) {
            Works works = new Works();
            String pattern = chance(CHANCE.nextInt(900), "a", "b", "é", "(", ")", "(?:", "(?i)", "|", "*", "?", "{2}", "{0}",
                "[a-c]", "[^x]", "\\w", "\\PL", ".", "\\b", "(?:)", "(?s-i:", "{0,3}?");
            works.compile(i % 6, i % 32, pattern);
            Works.same("a fault is told", works.it.fault(0) >= 0 && works.it.fault(0) <= 14 ? 1 : 0, 1);
        }
    }

    /** Whatever is called in whatever order, nothing but the document's exception comes out, and over() is 0. */
    private static void anyCalls(int rounds) {
        for (int i = 0; i < rounds; i++) {
            Works works = new Works();
            String last = "";
            while (works.it.left() > 12) {
                int call = CHANCE.nextInt(24);
                try {
                    anyCall(works, call);
                    last = "call " + call;
                } catch (IllegalArgumentException e) {
                    Works.same("call " + call + " may throw", REFUSING.contains(call) ? 1 : 0, 1);
                    last = "refused call " + call;
                } catch (RuntimeException e) {
                    Works.same("behind " + last + " came " + e, 1, 0);
                    e.printStackTrace(System.out);
                }
            }
            Works.same("over", works.it.over(), 0);
        }
    }

    private static int number() {
        int[] often = {-1, 0, 1, 2, 3, 4, 5, 6, 9, 10, 20, 31, 32, 63, 64, Integer.MIN_VALUE, Integer.MAX_VALUE, 1 << 30};
        return CHANCE.nextInt(4) > 0 ? CHANCE.nextInt(6) : often[CHANCE.nextInt(often.length)];
    }

    private static void anyCall(Works works, int call) {
        Counted it = works.it;
        switch (call) {
            case 0: it.feed(CHANCE.nextInt(), CHANCE.nextInt(), CHANCE.nextInt(), CHANCE.nextInt(), CHANCE.nextInt()); break;
            case 1: it.end(number()); break;
            case 2: it.fault(number()); break;
            case 3: it.about(number(), number()); break;
            case 4: it.name(number(), number(), number()); break;
            case 5: it.subject(); break;
            case 6: it.group(number(), number()); break;
            case 7: it.all(number()); break;
            case 8: it.found(number(), number()); break;
            case 9: it.replace(number()); break;
            case 10: it.split(number()); break;
            case 11: it.piece(number(), number()); break;
            case 12: it.which(number(), CHANCE.nextBoolean()); break;
            case 13: it.quote(); break;
            case 14: it.output(number()); break;
            case 15: it.keep(number()); break;
            case 16: it.compile(number(), number()); break;
            case 17: works.put(chance(CHANCE.nextInt(9), "a", "b", "$1", "$0", "${n}", "$$", "é", "(a)", "(?P<n>b|)", "*")); break;
            case 18: case 19: works.put(chance(CHANCE.nextInt(30), "a", "(b|)", "*", ".", "(?P<n>a?)", "|", "[^a]", "\\C")); break;
            default: it.match(number(), number(), number(), number()); break;
        }
    }

    private static void sameByAll(Works works, int slot, String what) {
        for (int how = 0; how < 3; how++) {
            String due = works.match(slot, how, 1, 0);
            for (int machine = 0; machine < 5; machine += machine == 0 ? 2 : 1) {
                Works.same(what + " how " + how + " by " + machine, works.match(slot, how, machine, 0), due);
            }
        }
        Works.same(what + " over", works.it.over(), 0);
    }

    /** Ways with very much left to try. */
    private static void deepStacks() {
        sameByAll(deep(0, "((?:a??){50}a)*b|(a)*?$"), 0, "deep");
        Works works = deep(0, "(?:(?:b??|a??){20}(a))*");
        sameByAll(works, 0, "deep");
        Works.same("deep all", works.all(0), "0-2000");
        Works.same("too often", new Works().compile(2, 0, "(?:(?:a??){50}a){300}"), "fault 9 at 16");
        sameByAll(deep(16, "((?:a??){60}a)*?(?:b|)"), 0, "longest");
        Works.same("how many", deep(0, "(?:(?:a??){90}a){2}").it.all(0), 1000);
        Works.same("how many of nothing", deep(0, "(?:(?:(?:a??){100}a??)*b|)").it.all(0), 2001);
        works = deep(16, "(?:(?:()|a??){60}a)*|b");
        Works.same("one", works.it.all(0), 1);
        Works.same("over", works.it.over(), 0);
    }

    private static Works deep(int flags, String pattern) {
        Works works = new Works();
        works.subject("a".repeat(2000));
        works.compile(0, flags, pattern);
        Works.same(pattern + " is read", works.it.fault(0), 0);
        return works;
    }

    private static void machinesAgreeOnLongSubjects(int rounds) {
        for (int i = 0; i < rounds; i++) {
            String pattern = "";
            boolean fine = false;
            for (int turn = 0; turn < 50 && !fine; turn++) {
                pattern = chance(CHANCE.nextInt(60), "a", "b", "(", ")", "(?:", "|", "*", "??", "{0,7}", "[ab]", "é", "\\C",
                    ".", "\\b", "(a|b)*", "(?:ab|a)*?", "+", "[^b]{0,20}", "(?:a*)*", "$", "\\B");
                fine = !new Works().compile(0, 0, pattern).startsWith("fault");
            }
            if (fine) {
                Works works = new Works();
                works.compile(0, CHANCE.nextInt(8) == 0 ? 16 : 0, pattern);
                works.subject(Works.utf8(chance(CHANCE.nextInt(490), "a", "b", "a", "é", "ab", "\n")));
                sameByAll(works, 0, "round " + i);
                works.it.all(0);
                works.it.split(0);
                works.replaceLength(0, "<$0>");
                works.it.which(63, true);
                Works.same("over", works.it.over(), 0);
            }
        }
    }
}
