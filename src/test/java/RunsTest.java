import java.util.Random;

/** Runs of calls made by chance (always the same): each answer, and each refusal, against the model. */
public final class RunsTest {
    private static final Random CHANCE = new Random(1115);
    private static final String[] PATTERNS = {"a", "b*", "", "(a)|(b)", "(?P<n>a+)b?", "a|ab", "^", "$", "\\b", ".", "\\C", "é", "[^a]", "(a",
        "a)", "[", "\\", "[b-a]", "\\pX", "a**", "a{2,1}", "(?x)", "(?P<n>)(?P<n>)", "a{100}b{100}c{100}d{100}e", "(?i)k", "(a|b)*?c",
        "(?m)^.*$", "\\w+", "(?P<abcdefghijkl>.)(?P<Z_9>.)?", "()()()()()()()()()", "()()()()()()()()()()", "x{0}", "(?s).*", "|a"};
    private static final String[] SUBJECTS = {"", "a", "ab", "aab", "éa", "\n", "a\nb", "a b", "kK", "aaaaabbbb", "---", "c", "abcabc"};
    private static final String[] TEMPLATES = {"", "$0", "$1", "<$1$2>", "${n}", "$$", "$", "x$", "${Z_9}$1", "${", "$9", "-", "${abcdefghijkl}", "$x"};
    private static final int[] NUMBERS = {0, 1, 2, 3, 4, 5, 6, 7, 9, 10, 12, 20, 21, 31, 32, 63, 64, 65, -1, -2, 2000, 6000, Integer.MIN_VALUE,
        Integer.MAX_VALUE};
    private static Works works;
    private static Model model;
    private static int told;

    public static void main(String[] args) {
        int rounds = args.length > 0 ? Integer.parseInt(args[0]) : 500;
        if (args.length > 1) {
            CHANCE.setSeed(Long.parseLong(args[1]));
        }
        Works.sentence("a run of calls is answered as the promises say");
        for (int round = 0; round < rounds && Works.wrongSoFar() < 20; round++) {
            works = new Works();
            model = new Model();
            try {
                while (works.it.left() > 8) {
                    step(CHANCE.nextInt(30), round);
                }
            } catch (Oracle.TooLong e) {
                continue;
            }
        }
        Works.finish("RunsTest");
    }

    private static int few() {
        return CHANCE.nextInt(12) == 0 ? any() : CHANCE.nextInt(3);
    }

    private static int any() {
        return NUMBERS[CHANCE.nextInt(NUMBERS.length)];
    }

    private interface Call {
        int of();
    }

    private static int answer(Call call) {
        try {
            return call.of();
        } catch (Oracle.TooLong e) {
            throw e;
        } catch (IllegalArgumentException e) {
            return -1000;
        } catch (RuntimeException e) {
            return -2000;
        }
    }

    private static void same(String what, Call got, Call due) {
        int answerDue = answer(due);
        Works.same(what, answer(got), answerDue);
    }

    /** Brings a text to the tape by chance, or something else there was is left. */
    private static void put(String[] of) {
        byte[] bytes = Works.utf8(of[CHANCE.nextInt(of.length)]);
        for (int at = 0; at < bytes.length; at += 20) {
            int[] five = new int[5];
            for (int i = 0; i < 20; i++) {
                five[i / 4] = five[i / 4] << 8 | (at + i < bytes.length ? bytes[at + i] & 255 : 0);
            }
            works.it.feed(five[0], five[1], five[2], five[3], five[4]);
            model.feed(five);
            int n = Math.min(20, bytes.length - at);
            same("end", () -> works.it.end(n), () -> model.end(n));
        }
    }

    private static void step(int call, int round) {
        int a = few();
        int b = few();
        int c = few();
        int d = few();
        String what = "run " + round + " call " + told++ + " (" + call + ") " + a + " " + b + " " + c + " " + d;
        switch (call) {
            case 0:
                works.it.feed(a, b, c, d, any());
                model.feed(a, b, c, d, 0);
                works.it.feed(a, b, c, d, 0x61620000);
                model.feed(a, b, c, d, 0x61620000);
                break;
            case 1:
                int n = any();
                same(what + " end " + n, () -> works.it.end(n), () -> model.end(n));
                break;
            case 2: same(what, () -> works.it.about(a, b), () -> model.about(a, b)); break;
            case 3: same(what, () -> works.it.name(a, b, c), () -> model.name(a, b, c)); break;
            case 4: same(what, () -> works.it.fault(a), () -> model.fault(a)); break;
            case 5: same(what, () -> works.it.piece(a, b), () -> model.piece(a, b)); break;
            case 6: same(what, () -> works.it.found(a, b), () -> model.found(a, b)); break;
            case 7: same(what, () -> works.it.output(a), () -> model.output(a)); break;
            case 8: same(what, () -> works.it.group(a, b), () -> model.group(a, b)); break;
            case 9:
                int states = any();
                same(what + " keep " + states, () -> keep(states), () -> modelKeep(states));
                break;
            case 10: same(what, () -> works.it.over(), () -> model.over()); break;
            case 11: same(what, () -> works.it.quote(), () -> model.quote()); break;
            case 12: case 13: case 14: case 15:
                put(PATTERNS);
                int flags = CHANCE.nextInt(3) == 0 ? any() : 0;
                same(what + " compile", () -> works.it.compile(a, flags), () -> model.compile(a, flags));
                same(what + " fault", () -> works.it.fault(0), () -> model.fault(0));
                same(what + " place", () -> works.it.fault(1), () -> model.fault(1));
                break;
            case 16: case 17: case 18:
                put(SUBJECTS);
                same(what + " subject", () -> works.it.subject(), () -> model.subject());
                break;
            case 19: case 20:
                put(TEMPLATES);
                same(what + " replace", () -> works.it.replace(a), () -> model.replace(a));
                same(what + " output", () -> works.it.output(b), () -> model.output(b));
                break;
            case 21: case 22: same(what + " all", () -> works.it.all(a), () -> model.all(a)); break;
            case 23: case 24: same(what + " split", () -> works.it.split(a), () -> model.split(a)); break;
            case 25:
                int bits = any();
                same(what + " which", () -> works.it.which(bits, a == 0), () -> model.which(bits, a == 0));
                break;
            default:
                int machine = CHANCE.nextInt(20) == 0 ? any() : CHANCE.nextInt(5);
                same(what + " match", () -> works.it.match(a, b, machine, d), () -> model.match(a, b, machine, d));
                same(what + " group", () -> works.it.group(c, 0), () -> model.group(c, 0));
                same(what + " group", () -> works.it.group(c, 1), () -> model.group(c, 1));
                break;
        }
    }

    private static int keep(int states) {
        works.it.keep(states);
        return 0;
    }

    private static int modelKeep(int states) {
        model.keep(states);
        return 0;
    }
}
