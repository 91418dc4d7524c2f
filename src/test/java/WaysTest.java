import java.io.ByteArrayOutputStream;
import java.util.List;
import java.util.Random;

/** Many patterns and subjects made by chance (always the same): every machine against the document's words. */
public final class WaysTest {
    private static final String[] TOKENS = {
        "a", "b", "c", "A", "k", "s", "_", "0", "\n", " ", "é", "É", "ß", "σ", "ς", "Σ", "я", "Я", "å", "µ", "€", "😀",
        "(", ")", "(?:", "(?i)", "(?i:", "(?-i)", "(?m)", "(?s)", "(?U)", "(?ms-iU:", "(?-s)", "(?i-m:", "(?s-U)", "(?P<n>", "(?P<m1>", "(?)",
        "(?-)", "(?P<", "(?x)", "(?P=n)", "(?", "|", "*", "+", "?", "*?", "+?", "??", "{2}", "{0}", "{1,2}", "{0,2}?",
        "{2,}", "{1,}?", "{3,2}", "{101}", "{1000}", "{,2}", "{", "}", "{2", "{100}", ".", "^", "$", "\\A", "\\z", "\\b",
        "\\B", "\\C", "\\d", "\\D", "\\s", "\\S", "\\w", "\\W", "\\pL", "\\PL", "\\pN", "\\pG", "\\PY", "\\pX", "\\p",
        "\\n", "\\t", "\\a", "\\.", "\\\\", "\\q", "\\_", "\\1", "\\x41", "\\x{e9}", "\\x{1F600}", "\\x{D800}", "\\x4",
        "\\", "\\é", "[", "]", "[^", "[a", "[a-c]", "[^a-c]", "[]", "[]a]", "[^]a]", "[a-", "[\\d-z]", "[--a]", "[a-b-c]",
        "[[:digit:]", "[[:^alpha:]]", "[[:foo:]]", "[a-[:digit:]]", "[\\w]", "[z-a]", "[a-\\d]", "[\\b]", "[é-ω]",
        "[[:punct:][:space:]]", "[\\x00-\\x{10FFFF}]", "[^\\x00-\\x{10FFFF}]", "-", ":", "[:", ":]", "-]"};
    private static final String[] PIECES = {
        "a", "b", "a", "b", "c", "A", "é", "\n", " ", "€", "0", "_", "k", "\u212A", "σ", "Σ", "😀"};

    private static final Random CHANCE = new Random(20261115);
    private static int skipped = 0;
    private static int refusals = 0;
    private static int runs = 0;

    public static void main(String[] args) {
        int rounds = args.length > 0 ? Integer.parseInt(args[0]) : 6000;
        if (args.length > 1) {
            CHANCE.setSeed(Long.parseLong(args[1]));
        }
        Works works = new Works();
        for (int round = 0; round < rounds && Works.wrongSoFar() < 20; round++) {
            // Rows that have grown hide what short ones show, so most objects are new.
            works = CHANCE.nextInt(4) == 0 && works.it.left() > 100 ? works : new Works();
            byte[] pattern = pattern(round);
            int flags = CHANCE.nextInt(3) == 0 ? CHANCE.nextInt(32) : CHANCE.nextInt(4) == 0 ? 16 : 0;
            works = tryPattern(works, pattern, flags);
        }
        System.out.println(runs + " runs, " + refusals + " refused patterns, " + skipped + " runs too long to be told");
        Works.finish("WaysTest");
    }

    private static byte[] pattern(int round) {
        if (round % 4 == 0) {
            StringBuilder soup = new StringBuilder();
            for (int i = CHANCE.nextInt(8); i >= 0; i--) {
                soup.append(TOKENS[CHANCE.nextInt(TOKENS.length)]);
            }
            return Works.utf8(soup.toString());
        }
        if (round % 4 == 2) {
            return Works.utf8(wavering(3) + one("", "$", "b", "a*"));
        }
        byte[] made = Works.utf8(alternatives(CHANCE.nextInt(4)));
        if (round % 8 == 1 && made.length > 0) {
            made[CHANCE.nextInt(made.length)] = (byte) CHANCE.nextInt(256);
        }
        return made;
    }

    private static String alternatives(int depth) {
        StringBuilder all = new StringBuilder(row(depth));
        for (int i = CHANCE.nextInt(3); i > 0 && CHANCE.nextInt(2) == 0; i--) {
            all.append('|').append(row(depth));
        }
        return all.toString();
    }

    private static String row(int depth) {
        StringBuilder all = new StringBuilder();
        for (int i = CHANCE.nextInt(4); i > 0; i--) {
            all.append(part(depth));
            if (CHANCE.nextInt(5) < 3) {
                all.append(one("*", "+", "?", "{0,2}", "{2}", "{1,}", "{1,3}", "{0}", "*", "?"));
                all.append(CHANCE.nextInt(3) == 0 ? "?" : "");
            }
        }
        return all.toString();
    }

    /** Repeats of what may take nothing, greedy and lazy within one another: there the order of ways is delicate. */
    private static String wavering(int depth) {
        if (depth == 0 || CHANCE.nextInt(5) == 0) {
            return one("a", "b", "a?", "b?", "a??", "b??", "a*", "b*?", "", "\\b", "^", "a", "b", "[ab]??");
        }
        String inside = wavering(depth - 1) + one("", "|", "") + wavering(depth - 1) + one("", "", "|", "|" + wavering(0));
        return one("(", "(?:") + inside + ")" + one("*", "*?", "+", "+?", "?", "??", "{2,}", "{0,2}", "{1,2}?", "*", "");
    }

    private static String part(int depth) {
        if (depth > 0 && CHANCE.nextInt(3) > 0) {
            return one("(", "(", "(", "(?:", "(?i:", "(?U:") + alternatives(depth - 1) + ")";
        }
        return one("a", "b", "a", "b", "ab", "é", "[ab]", "[^a]", ".", "\\C", "^", "$", "\\b", "\\B", "\\z", "(?i)k", "(?s).",
            "(?m)^", "(?m)$", "\\w", "\\W", "[a-cé]", "€", "\\x{1F600}");
    }

    private static String one(String... of) {
        return of[CHANCE.nextInt(of.length)];
    }

    private static byte[] subject() {
        ByteArrayOutputStream bytes = new ByteArrayOutputStream();
        int simple = CHANCE.nextInt(2);
        for (int i = CHANCE.nextInt(9); i > 0; i--) {
            byte[] piece = Works.utf8(PIECES[CHANCE.nextInt(simple == 0 ? 4 : PIECES.length)]);
            int keep = CHANCE.nextInt(20) == 0 ? CHANCE.nextInt(piece.length) : piece.length;
            bytes.write(piece, piece.length - keep, keep);
            if (CHANCE.nextInt(30) == 0) {
                bytes.write(CHANCE.nextInt(256));
            }
        }
        return bytes.toByteArray();
    }

    static String told(byte[] bytes) {
        StringBuilder all = new StringBuilder();
        for (byte b : bytes) {
            int c = b & 255;
            all.append(c >= 32 && c < 127 ? "" + (char) c : String.format("<%02X>", c));
        }
        return all.toString();
    }

    /** Tries a pattern on some subjects, by an object with calls left or by new ones: the last of them. */
    private static Works tryPattern(Works first, byte[] pattern, int flags) {
        Works works = first;
        String what = "'" + told(pattern) + "' flags " + flags;
        Oracle oracle;
        int slot = CHANCE.nextInt(6);
        try {
            oracle = new Oracle(pattern, flags);
        } catch (Oracle.Fault fault) {
            refusals++;
            Works.same(what, works.compile(slot, flags, pattern), "fault " + fault.kind + " at " + fault.place);
            return works;
        }
        Works.same(what, works.compile(slot, flags, pattern), "" + oracle.groups);
        if (works.it.fault(0) != 0) {
            return works;
        }
        Works.same(what + " fault", works.it.fault(1), -1);
        Works.same(what + " size", works.it.about(slot, 1), (long) oracle.size);
        Works.same(what + " flags", works.it.about(slot, 2), flags);
        for (int i = 0; i < 4; i++) {
            byte[] subject = subject();
            if (works.it.left() < callsFor(oracle.groups)) {
                works = new Works();
                works.compile(slot, flags, pattern);
            }
            works.subject(subject);
            oracle.subject(subject);
            if (CHANCE.nextInt(10) == 0) {
                works.it.keep(4 + CHANCE.nextInt(61));
            }
            try {
                tryMatches(works, oracle, slot, subject.length, what + " on '" + told(subject) + "'");
                tryAll(works, oracle, slot, subject, what + " on '" + told(subject) + "'");
            } catch (Oracle.TooLong e) {
                skipped++;
            } catch (StackOverflowError e) {
                skipped++;
            }
            Works.same(what + " over", works.it.over(), 0);
            runs++;
        }
        return works;
    }

    /** At least as many calls as a subject takes: fifteen matches with their groups, and all matches with some bytes each. */
    private static int callsFor(int groups) {
        return 15 * (5 + 2 * groups) + 230;
    }

    private static void tryMatches(Works works, Oracle oracle, int slot, int length, String what) {
        for (int how = 0; how < 3; how++) {
            int from = CHANCE.nextInt(3) == 0 ? CHANCE.nextInt(length + 1) : 0;
            String due = spans(oracle.match(how, from), oracle.groups);
            for (int machine = 0; machine < 5; machine++) {
                Works.same(what + " match " + how + " by " + machine + " from " + from,
                    works.match(slot, how, machine, from), due);
            }
            if (how != 1) {
                boolean there = oracle.match(how, 0) != null;
                Works.same(what + " which " + how, works.it.which(1 << slot, how == 2), there ? 1 << slot : 0);
            }
        }
    }

    private static String spans(int[] match, int groups) {
        if (match == null) {
            return "none";
        }
        StringBuilder all = new StringBuilder();
        for (int k = 0; k <= groups; k++) {
            all.append(k == 0 ? "" : " ").append(Works.span(match[2 * k], match[2 * k + 1]));
        }
        return all.toString();
    }

    private static void tryAll(Works works, Oracle oracle, int slot, byte[] subject, String what) {
        List<int[]> matches = oracle.allMatches();
        StringBuilder spans = new StringBuilder();
        StringBuilder replaced = new StringBuilder();
        StringBuilder pieces = new StringBuilder();
        String text = new String(subject, java.nio.charset.StandardCharsets.ISO_8859_1);
        int from = 0;
        int pieceFrom = 0;
        for (int[] match : matches) {
            spans.append(spans.length() == 0 ? "" : " ").append(Works.span(match[0], match[1]));
            replaced.append(text, from, match[0]).append("<").append(text, match[0], match[1]);
            if (oracle.groups > 0 && match[2] >= 0) {
                replaced.append(text, match[2], match[3]);
            }
            replaced.append("$>");
            from = match[1];
            boolean parts = match[0] < match[1] || match[0] > 0 && match[0] < subject.length;
            if (parts) {
                pieces.append(Works.span(pieceFrom, match[0])).append(" ");
                pieceFrom = match[1];
            }
        }
        replaced.append(text.substring(from));
        pieces.append(Works.span(pieceFrom, subject.length));
        Works.same(what + " all", works.all(slot), spans.toString());
        Works.same(what + " replace", works.replace(slot, oracle.groups > 0 ? "<$0$1$$>" : "<$0$$>"), replaced.toString());
        Works.same(what + " split", works.split(slot), pieces.toString());
    }
}
