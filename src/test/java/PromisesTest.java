/** Each promise with ordinary inputs, the edges that the document names, and wrong inputs. */
public final class PromisesTest {
    private static final int NONE = PatternWorks.NONE;

    public static void main(String[] args) {
        newObject();
        feed();
        end();
        compile();
        fault();
        about();
        name();
        subject();
        match();
        group();
        all();
        replace();
        split();
        which();
        quoteAndOutput();
        keepAndOver();
        Works.finish("PromisesTest");
    }

    private static void newObject() {
        Works w = new Works();
        for (int slot = -1; slot <= 6; slot++) {
            Works.same("1: about", w.it.about(slot, 0), NONE);
            Works.same("1: name", w.it.name(slot, 1, 0), NONE);
        }
        Works.same("1: output", w.it.output(0), NONE);
        Works.same("1: found", w.it.found(0, 0), NONE);
        Works.same("1: piece", w.it.piece(0, 0), NONE);
        Works.same("1: group", w.it.group(0, 0), NONE);
        Works.same("1: which", w.it.which(63, false), 0);
        Works.same("1: tape", w.it.end(0), 0);
        Works.same("1: the empty pattern", w.compile(0, 0, ""), "0");
        Works.same("1: the empty subject", w.all(0), "0-0");
        Works.refused("1: no place behind the empty subject", () -> w.it.match(0, 0, 0, 1));
        Works.same("1: other objects", new Works().it.about(0, 0), NONE);
    }

    private static String tape(Works w) {
        w.it.subject();
        w.compile(5, 4, ".*|\\C");
        w.put("$0");
        return w.output(w.it.replace(5));
    }

    private static void feed() {
        Works w = new Works();
        Works.same("2: 0 at first", w.it.end(2), 2);
        Works.same("2: 0 at first", tape(w), "\0\0");
        w.it.feed(0x61626364, 0x65666768, 0x696A6B6C, 0x6D6E6F70, 0x71727374);
        w.it.end(20);
        Works.same("2: the order", tape(w), "abcdefghijklmnopqrst");
        w.it.end(1);
        Works.same("2: 0 again", tape(w), "\0");
        w.it.feed(0x61626364, 0, 0, 0, 0);
        w.it.feed(0x78000000, 0, 0, 0, 0);
        w.it.end(2);
        Works.same("2: the later feed", tape(w), "x\0");
        w.it.feed(-1, 0, 0, 0, 0);
        Works.same("2: refused", w.it.end(21), NONE);
        w.it.end(4);
        Works.same("2: stays when end() answers none", tape(w), "\u00FF\u00FF\u00FF\u00FF");
        w.it.feed(0x41414141, 0, 0, 0, 0);
        w.it.end(0);
        w.it.end(1);
        Works.same("2: an end of nothing is an end", tape(w), "\0");
    }

    private static void end() {
        Works w = new Works();
        Works.same("3: -1", w.it.end(-1), NONE);
        Works.same("3: 21", w.it.end(21), NONE);
        for (int i = 1; i <= 100; i++) {
            Works.same("3: 20 more", w.it.end(20), 20 * i);
        }
        Works.same("3: 2001", w.it.end(1), NONE);
        Works.same("3: 2000", w.it.end(0), 2000);
        Works.same("3: 2000 stay", w.it.subject(), 2000);
        Works.same("3: empty again", w.it.end(7), 7);
        w.put("x".repeat(1990));
        Works.same("3: 1997 and 4", w.it.end(4), NONE);
        Works.same("3: 1997 and 3", w.it.end(3), 2000);
    }

    private static void compile() {
        Works w = new Works();
        Works.same("4: groups", w.compile(0, 0, "(a)(?:b)(?P<x>c)"), "2");
        w.put("a{2}");
        Works.refused("4: slot -1", () -> w.it.compile(-1, 0));
        Works.refused("4: slot 6", () -> w.it.compile(6, 0));
        Works.refused("4: flags -1", () -> w.it.compile(0, -1));
        Works.refused("4: flags 32", () -> w.it.compile(0, 32));
        Works.same("4: what was there stays", w.it.about(0, 0), 2);
        Works.same("4: the tape stays", w.it.end(0), 4);
        Works.same("4: it is the pattern then", w.it.compile(5, 31), 0);
        Works.same("4: flags", w.it.about(5, 2), 31);
        Works.same("4: the tape is empty then", w.it.end(0), 0);
        Works.same("4: a fault", w.compile(0, 0, "(a"), "fault 2 at 0");
        Works.same("4: the tape is empty behind a fault", w.it.end(0), 0);
        Works.same("4: what was there stays behind a fault", w.it.about(0, 0), 2);
        w.subject("xA\nb");
        flags(w, "(.*?)", 8, "0-2 0-2");
        flags(w, "(.*)", 8, "0-0 0-0");
        flags(w, "xa", 0, "none");
        flags(w, "xa", 1, "0-2");
        flags(w, "^b", 0, "none");
        flags(w, "^b", 2, "3-4");
        flags(w, "x.*b", 0, "none");
        flags(w, "x.*b", 4, "0-4");
        flags(w, "x|xA", 0, "0-1");
        flags(w, "x|xA", 16, "0-2");
        flags(w, "(?-i)xa", 1, "none");
    }

    private static void flags(Works w, String pattern, int flags, String due) {
        w.compile(1, flags, pattern);
        Works.same("4: " + pattern + " with " + flags, w.match(1, 0, 0, 0), due);
    }

    private static void fault(Works w, String pattern, int kind, int place) {
        Works.same("5: " + pattern, w.compile(2, 0, Works.raw(pattern)), "fault " + kind + " at " + place);
    }

    private static void fault() {
        Works w = new Works();
        Works.same("5: ahead of any", w.it.fault(0), 0);
        Works.same("5: ahead of any", w.it.fault(1), NONE);
        Works.refused("5: no slot", () -> w.it.compile(9, 0));
        Works.same("5: still", w.it.fault(0), 0);
        String many = "(?:".repeat(30);
        fault(w, "a\u00FFb", 1, 1);
        fault(w, "\u00C3", 1, 0);
        fault(w, "a\u00C0\u0080", 1, 1);
        fault(w, "\u00ED\u00A0\u0080", 1, 0);
        fault(w, "\u00F4\u0090\u0080\u0080", 1, 0);
        fault(w, "\u00E0\u0080\u0080", 1, 0);
        fault(w, "[a\u0080]", 1, 2);
        fault(w, "[a-\u0080]", 1, 3);
        fault(w, "a(b(c", 2, 3);
        fault(w, "(a)(?:b", 2, 3);
        fault(w, "a)", 3, 1);
        fault(w, "(a))(", 3, 3);
        fault(w, "([a", 4, 1);
        fault(w, "[]", 4, 0);
        fault(w, "[^]", 4, 0);
        fault(w, "[a-", 4, 0);
        fault(w, "a\\", 5, 1);
        fault(w, "[\\", 5, 1);
        fault(w, "\\\u00C3\u00A9", 5, 0);
        fault(w, "\\\u00FF", 5, 0);
        fault(w, "\\\u0080", 5, 0);
        fault(w, "\\_", 5, 0);
        fault(w, "\\1", 5, 0);
        fault(w, "\\x4", 5, 0);
        fault(w, "\\x{}", 5, 0);
        fault(w, "\\x{1234567}", 5, 0);
        fault(w, "\\x{D800}", 5, 0);
        fault(w, "\\x{110000}", 5, 0);
        fault(w, "[\\b]", 5, 1);
        fault(w, "[a-\\C]", 5, 3);
        fault(w, "\\p", 5, 0);
        fault(w, "[a-\\p", 5, 3);
        fault(w, "[z-a]", 6, 1);
        fault(w, "[xz-a]", 6, 2);
        fault(w, "[a-\\x00]", 6, 1);
        fault(w, "[a-\\d]", 6, 1);
        fault(w, "[\\x41-\\PL]", 6, 1);
        fault(w, "[a-[:", 6, 1);
        fault(w, "[a-\\pX]", 7, 3);
        fault(w, "\\pX", 7, 0);
        fault(w, "\\P{L}", 7, 0);
        fault(w, "x[[:foo:]]", 7, 2);
        fault(w, "[[:alpha", 7, 1);
        fault(w, "[a[:]", 7, 2);
        fault(w, "*a", 8, 0);
        fault(w, "a|+", 8, 2);
        fault(w, "(?i)*", 8, 4);
        fault(w, "(?)?", 8, 3);
        fault(w, "a*??", 8, 3);
        fault(w, "a{2}{3}", 8, 4);
        fault(w, "(a**", 8, 3);
        fault(w, "{101}", 8, 0);
        fault(w, "({2}", 8, 1);
        fault(w, "a{101}", 9, 1);
        fault(w, "a{1,101}", 9, 1);
        fault(w, "a{101,}", 9, 1);
        fault(w, "a{2,1}", 9, 1);
        fault(w, "(?x)", 10, 0);
        fault(w, "a(?", 10, 1);
        fault(w, "(?-)", 10, 0);
        fault(w, "(?i-:a)", 10, 0);
        fault(w, "(?i-m-s)", 10, 0);
        fault(w, "((?P<", 10, 1);
        fault(w, "(?P<>a)", 10, 0);
        fault(w, "(?P<a-b>a)", 10, 0);
        fault(w, "(?P<abcdefghijklm>a)", 10, 0);
        fault(w, "(?<n>a)", 10, 0);
        fault(w, "(?P=n>a)", 10, 0);
        fault(w, "(?X<n>a)", 10, 0);
        fault(w, "(?P<n>a)(?P<n>", 11, 8);
        fault(w, many + "(?x", 10, 90);
        fault(w, "(?P<n>" + many.substring(3) + "(?P<n>", 11, 93);
        fault(w, many + "(", 12, 90);
        fault(w, "()()()()()()()()()" + many + "()", 12, 108);
        fault(w, "()()()()()()()()()(", 13, 18);
        fault(w, "a{100}b{100}c{100}d{100}{", 14, NONE);
        Works.same("5: another what", w.it.fault(2), NONE);
        Works.same("5: another what", w.it.fault(-1), NONE);
        fine(w, many + ")".repeat(30), "0");
        fine(w, many + "(?i)" + ")".repeat(30), "0");
        fine(w, "()()()()()()()()()", "9");
        fine(w, "a{,2}{1000}{2", "0");
        fine(w, "{}]a{*", "0");
        fine(w, "[]a][^]a][a-][-a][--a][a-b-c][\\d-z][a\\]-b]", "0");
        fine(w, "^*$+\\b{2}(?:)*()?", "1");
        fine(w, "(?)(?i)(?ims-U)(?ii-i:a)(?:)(?P<abcdefghijkl>)(?P<_>)(?P<1>)", "3");
        fine(w, "|a||(|)", "1");
        Works.same("5: none", w.it.fault(0), 0);
        Works.same("5: no place", w.it.fault(1), NONE);
        Works.same("5: too big", w.compile(0, 0, "(?:a{100}){5}"), "fault 14 at -1");
    }

    private static void fine(Works w, String pattern, String groups) {
        Works.same("5: " + pattern, w.compile(2, 0, Works.raw(pattern)), groups);
    }

    private static void size(Works w, String pattern, int flags, int due) {
        w.compile(0, flags, pattern);
        Works.same("6: the size of " + pattern, w.it.about(0, 1), due);
    }

    private static void about() {
        Works w = new Works();
        size(w, "", 0, 0);
        size(w, "abc", 0, 3);
        size(w, "é", 0, 1);
        size(w, "a", 1, 10);
        size(w, "k", 1, 14);
        size(w, "7", 1, 1);
        size(w, "ß", 1, 1);
        size(w, "σ", 1, 10);
        size(w, "\\xb5", 1, 14);
        size(w, "[a]", 0, 6);
        size(w, "[ab]", 0, 6);
        size(w, "[ac]", 0, 10);
        size(w, "[^a]", 0, 14);
        size(w, ".", 0, 14);
        size(w, ".", 4, 10);
        size(w, "[^\\x00-\\x{10FFFF}]", 0, 2);
        size(w, "[^\\x00-\\x{10FFFE}]", 0, 6);
        size(w, "[\\x{D7FF}\\x{E000}]", 0, 10);
        size(w, "[\\x{D000}-\\x{E100}]", 0, 10);
        size(w, "\\C", 0, 1);
        size(w, "\\d", 0, 6);
        size(w, "\\w", 0, 18);
        size(w, "\\pL", 0, 38);
        size(w, "\\PL", 0, 46);
        size(w, "\\pN", 0, 18);
        size(w, "^$\\A\\z\\b\\B", 0, 6);
        size(w, "(a)", 0, 3);
        size(w, "(?:a)(?i)", 0, 1);
        size(w, "a||b", 0, 4);
        size(w, "a*", 0, 2);
        size(w, "a?", 0, 2);
        size(w, "a+", 0, 3);
        size(w, "(a)+", 0, 7);
        size(w, "a{3}", 0, 3);
        size(w, "a{3,}", 0, 5);
        size(w, "a{0,}", 0, 2);
        size(w, "a{2,5}", 0, 8);
        size(w, "(abc){0}", 0, 0);
        size(w, "(?:){2,5}", 0, 3);
        Works.same("6: groups", w.compile(3, 17, "(a)(b)"), "2");
        Works.same("6: groups", w.it.about(3, 0), 2);
        Works.same("6: flags", w.it.about(3, 2), 17);
        Works.same("6: another what", w.it.about(3, 3), NONE);
        Works.same("6: another what", w.it.about(3, -1), NONE);
        Works.same("6: no pattern", w.it.about(4, 0), NONE);
        Works.same("6: no slot", w.it.about(6, 0), NONE);
    }

    private static void name() {
        Works w = new Works();
        w.compile(1, 0, "(a)(?P<Ab_9>b)(?:(?P<x>))");
        String got = "";
        for (int i = 0; w.it.name(1, 2, i) != NONE; i++) {
            got += (char) w.it.name(1, 2, i);
        }
        Works.same("7: a name", got, "Ab_9");
        Works.same("7: another", w.it.name(1, 3, 0), 'x');
        Works.same("7: no name", w.it.name(1, 1, 0), NONE);
        Works.same("7: no byte", w.it.name(1, 2, -1), NONE);
        Works.same("7: no group", w.it.name(1, 0, 0), NONE);
        Works.same("7: no group", w.it.name(1, 4, 0), NONE);
        Works.same("7: no pattern", w.it.name(0, 1, 0), NONE);
        Works.same("7: no slot", w.it.name(-1, 1, 0), NONE);
        w.compile(1, 0, "(?P<n>b)(a)");
        Works.same("7: the new pattern's", w.it.name(1, 1, 0), 'n');
        Works.same("7: nothing of the old one", w.it.name(1, 2, 0), NONE);
    }

    private static void subject() {
        Works w = new Works();
        w.put("abc");
        Works.same("8: length", w.it.subject(), 3);
        Works.same("8: the tape is empty", w.it.end(0), 0);
        w.compile(0, 0, "b");
        Works.same("8: it is looked at", w.match(0, 0, 0, 0), "1-2");
        Works.same("8: empty", w.it.subject(), 0);
        Works.same("8: nothing is there", w.match(0, 0, 0, 0), "none");
    }

    /** All machines must answer the same. */
    private static void matches(String pattern, int flags, String subject, int how, int from, String due) {
        Works w = new Works();
        w.compile(0, flags, pattern);
        Works.same("9: " + pattern + " is read", w.it.fault(0), 0);
        w.subject(Works.raw(subject));
        for (int machine = 0; machine < 5; machine++) {
            Works.same("9: " + pattern + " flags " + flags + " on " + subject + " how " + how + " by " + machine,
                w.match(0, how, machine, from), due);
        }
    }

    private static void match() {
        matches("a*?b|(a)", 0, "xaab", 0, 0, "1-4 -");
        matches("(a|ab)(c|bcd)(d*)", 0, "abcd", 0, 0, "0-4 0-1 1-4 4-4");
        matches("(a|ab)(c|bcd)(d*)", 0, "abcde", 2, 0, "none");
        matches("(a|ab)(c|bcd)?", 0, "abcd", 0, 0, "0-4 0-1 1-4");
        matches("a|ab|abc", 0, "abcd", 1, 0, "0-1");
        matches("a|ab|abc", 16, "abcd", 1, 0, "0-3");
        matches("a|ab|abcd", 0, "abcd", 2, 0, "0-4");
        matches("b", 0, "ab", 1, 0, "none");
        matches("b", 0, "ab", 1, 1, "1-2");
        matches("", 0, "ab", 0, 2, "2-2");
        matches("(|a)+", 0, "aaa", 0, 0, "0-3 2-3");
        matches("(|a)*", 0, "aaa", 0, 0, "0-3 2-3");
        matches("(a*)*", 0, "b", 0, 0, "0-0 -");
        matches("(a*)+", 0, "b", 0, 0, "0-0 0-0");
        matches("(a?b??)*", 0, "ab", 0, 0, "0-2 1-2");
        matches("(a??)?", 0, "a", 0, 0, "0-0 0-0");
        matches("(?:(?:a|\\b) ??)*", 0, "a ", 0, 0, "0-2");
        matches("(?:(?:a|$)\n??)*", 2, "a\n", 0, 0, "0-2");
        matches("(?:(?:a|^)\n??)*", 2, "\n\n", 0, 0, "0-2");
        matches("(?:(?:a|)b??)*", 0, "ab", 0, 0, "0-2");
        matches("(?:(a)|(b))*", 0, "ab", 0, 0, "0-2 0-1 1-2");
        matches("(a){0}b", 0, "ab", 0, 0, "1-2 -");
        matches("(a{2}){2,3}?", 0, "aaaaaaa", 0, 0, "0-4 2-4");
        matches("x*", 0, "\u00C3\u00A9", 0, 1, "1-1");
        matches(".", 0, "\u00C3\u00A9", 0, 1, "none");
        matches(".", 0, "\u00A9\u00FFa", 0, 0, "2-3");
        matches("\\C", 0, "\u00C3\u00A9", 1, 1, "1-2");
        matches("\\C\\C|é", 0, "\u00C3\u00A9", 0, 0, "0-2");
        matches("(\\C|é)(\\C?)", 0, "\u00C3\u00A9", 0, 0, "0-2 0-1 1-2");
        matches("(é|\\C)(\\C?)", 0, "\u00C3\u00A9x", 0, 0, "0-3 0-2 2-3");
        matches("[^a]", 0, "a\n", 0, 0, "1-2");
        matches("\\bfoo\\b", 0, "afoo foo_ foo", 0, 0, "10-13");
        matches("\\B", 0, "ab", 0, 0, "1-1");
        matches("\\B", 0, "", 0, 0, "0-0");
        matches("\\b", 0, "", 0, 0, "none");
        matches("a$", 0, "a\n", 0, 0, "none");
        matches("a$", 2, "a\n", 0, 0, "0-1");
        matches("^b", 2, "a\nb", 0, 1, "2-3");
        matches("\\Ab", 2, "a\nb", 0, 0, "none");
        matches("^", 0, "ab", 0, 1, "none");
        matches("(?i)k\\x53[^K]", 0, "\u00E2\u0084\u00AA\u00C5\u00BFx", 0, 0, "0-6");
        matches("(?i)[α-ω]+", 0, new String(Works.utf8("\u03A2ςΣ"), java.nio.charset.StandardCharsets.ISO_8859_1), 0, 0, "0-6");
        matches("(?i)[[:upper:]]", 0, "a", 0, 0, "none");
        matches("(?i:a)a", 0, "Aa", 0, 0, "0-2");
        matches("(?i:a)a", 0, "aA", 0, 0, "none");
        matches("a(?i)b|c", 0, "C", 0, 0, "0-1");
        matches("(?:a(?i))b", 0, "aB", 0, 0, "none");
        matches("(?U)(a*)(a*?)", 0, "aa", 0, 0, "0-2 0-0 0-2");
        matches("[[:^digit:]]+", 0, "1\u00C3\u00A92", 0, 0, "1-3");
        matches("[[:^digit:]]+", 0, "1\u00C3\u00C3", 0, 0, "none");
        matches("a{2,}b{0}c{1,2}", 0, "aaaccc", 0, 0, "0-5");
        matches("[]a-]+", 0, "x]-a", 0, 0, "1-4");
        matches("(a+)+$", 0, "a".repeat(60) + "b", 0, 0, "none");
        matches("(x+x+)+y", 0, "x".repeat(300), 0, 0, "none");
        matches("(?-s)a", 0, "A", 0, 0, "none");
        matches("(?i-s)a(?s-m).", 0, "A\n", 0, 0, "0-2");
        matches("(?U-U)(a*)", 8, "aa", 0, 0, "0-2 0-2");
        characters();
        wordBytes();
        Works w = new Works();
        w.compile(0, 0, "a");
        w.subject("aa");
        Works.refused("9: no pattern", () -> w.it.match(1, 0, 0, 0));
        Works.refused("9: no slot", () -> w.it.match(6, 0, 0, 0));
        Works.refused("9: no slot", () -> w.it.match(-1, 0, 0, 0));
        Works.refused("9: no how", () -> w.it.match(0, 3, 0, 0));
        Works.refused("9: no how", () -> w.it.match(0, -1, 0, 0));
        Works.refused("9: no machine", () -> w.it.match(0, 0, 5, 0));
        Works.refused("9: no machine", () -> w.it.match(0, 0, -1, 0));
        Works.refused("9: no place", () -> w.it.match(0, 0, 0, 3));
        Works.refused("9: no place", () -> w.it.match(0, 0, 0, -1));
        Works.same("9: the last place", w.match(0, 0, 0, 2), "none");
    }

    /** Each width of a character, at its ends, plain, by an escape, and with its last byte lost. */
    private static void characters() {
        int[] codes = {0, 0x7F, 0x80, 0xBF, 0xC0, 0x7FF, 0x800, 0xFFF, 0x1000, 0xCFFF, 0xD7FF, 0xE000, 0xFFFF, 0x10000,
            0x3FFFF, 0x40000, 0xFFFFF, 0x100000, 0x10FFFF};
        for (int code : codes) {
            byte[] bytes = Works.utf8(new String(Character.toChars(code)));
            String text = new String(bytes, java.nio.charset.StandardCharsets.ISO_8859_1);
            String due = "0-" + bytes.length;
            String hex = Integer.toHexString(code);
            matches("(?s).", 0, text, 2, 0, due);
            matches("\\x{" + hex + "}", 0, text, 2, 0, due);
            matches("[\\x{" + hex + "}-\\x{10FFFF}]", 0, text, 2, 0, due);
            matches("\\C{" + bytes.length + "}", 0, text, 2, 0, due);
            matches("(?s).", 0, text.substring(0, text.length() - 1), 0, 0, "none");
            if (code > 127) {
                matches(new String(Character.toChars(code)), 0, text, 2, 0, due);
                matches("(?s).", 0, text.substring(1), 0, 0, "none");
            }
        }
        String[] odd = {"\u0080", "\u00BF", "\u00C0\u0080", "\u00C1\u00BF", "\u00E0\u009F\u00BF", "\u00ED\u00A0\u0080",
            "\u00ED\u00BF\u00BF", "\u00F0\u008F\u00BF\u00BF", "\u00F4\u0090\u0080\u0080", "\u00F5\u0080\u0080\u0080", "\u00FF"};
        for (String bytes : odd) {
            matches("(?s).", 0, bytes, 0, 0, "none");
            matches("\\C*", 0, bytes, 0, 0, "0-" + bytes.length());
        }
    }

    /** Which bytes are of words, by assertions, classes, escapes and quotes. */
    private static void wordBytes() {
        for (int code = 0; code < 256; code++) {
            boolean word = code < 128 && (Character.isLetterOrDigit(code) || code == '_');
            Works w = new Works();
            byte[] one = {(byte) code};
            w.subject(one);
            w.compile(0, 0, "\\b");
            Works.same("9: \\b at " + code, w.all(0), word ? "0-0 1-1" : "");
            w.compile(0, 0, "\\B");
            Works.same("9: \\B at " + code, w.all(0), word ? "" : "0-0 1-1");
            w.compile(0, 0, "\\w");
            Works.same("9: \\w at " + code, w.all(0), word ? "0-1" : "");
            w.compile(0, 0, "\\W");
            Works.same("9: \\W at " + code, w.all(0), word || code > 127 ? "" : "0-1");
            w.put(one);
            Works.same("17: " + code, w.it.quote(), word || code > 127 ? 1 : 2);
            byte[] escape = {'\\', (byte) code};
            if (word) {
                boolean known = "afnrtvAzbBCdDsSwW".indexOf(code) >= 0;
                Works.same("5: \\ and " + (char) code, w.compile(1, 0, escape), known ? "0" : "fault 5 at 0");
            } else {
                Works.same("5: \\ and " + code, w.compile(1, 0, escape), code > 127 ? "fault 5 at 0" : "0");
                if (code < 128) {
                    Works.same("9: \\ and " + code, w.match(1, 2, 0, 0), "0-1");
                }
            }
        }
    }

    private static void group() {
        Works w = new Works();
        w.compile(0, 0, "(a)(b)?");
        w.subject("xa");
        w.it.match(0, 0, 0, 0);
        w.subject("");
        w.compile(0, 0, "(q)");
        Works.refused("10: refused", () -> w.it.match(0, 0, 0, 1));
        Works.same("10: begins", w.it.group(0, 0), 1);
        Works.same("10: ends", w.it.group(0, 1), 2);
        Works.same("10: group 1", w.it.group(1, 0), 1);
        Works.same("10: no span", w.it.group(2, 0), NONE);
        Works.same("10: no group", w.it.group(3, 0), NONE);
        Works.same("10: no group", w.it.group(10, 0), NONE);
        Works.same("10: no group", w.it.group(-1, 0), NONE);
        Works.same("10: another which", w.it.group(0, 2), NONE);
        Works.same("10: another which", w.it.group(0, -1), NONE);
        w.compile(1, 0, "");
        w.it.all(1);
        w.it.split(1);
        Works.same("10: all() is no match()", w.it.group(0, 0), 1);
        w.it.match(0, 0, 0, 0);
        Works.same("10: no match", w.it.group(0, 0), NONE);
        Works.same("10: no match", w.it.group(1, 1), NONE);
    }

    private static void all(String pattern, int flags, String subject, String due) {
        Works w = new Works();
        w.compile(0, flags, pattern);
        w.subject(subject);
        Works.same("11: " + pattern + " on " + subject, w.all(0), due);
    }

    private static void all() {
        all("|a", 0, "a", "0-0 1-1");
        all("a|", 0, "ab", "0-1 2-2");
        all("a*", 0, "baac", "0-0 1-3 4-4");
        all("a", 0, "baaa", "1-2 2-3 3-4");
        all("", 0, "é", "0-0 1-1 2-2");
        all("", 0, "", "0-0");
        all("x", 0, "", "");
        all("(?m)^", 0, "a\nb\n", "0-0 2-2 4-4");
        all("a|ab", 16, "abab", "0-2 2-4");
        all("\\b", 0, "ab c", "0-0 2-2 3-3 4-4");
        all("^a", 0, "aa", "0-1");
        Works w = new Works();
        w.compile(0, 0, "b");
        w.subject("abcb");
        Works.same("11: how many", w.it.all(0), 2);
        Works.refused("11: no pattern", () -> w.it.all(1));
        Works.refused("11: no slot", () -> w.it.all(6));
        w.subject("");
        w.compile(0, 0, "");
        Works.same("12: still there", w.it.found(1, 0), 3);
        Works.same("12: its end", w.it.found(1, 1), 4);
        Works.same("12: no such", w.it.found(2, 0), NONE);
        Works.same("12: no such", w.it.found(-1, 0), NONE);
        Works.same("12: no such", w.it.found(1 << 30, 0), NONE);
        Works.same("12: another which", w.it.found(0, 2), NONE);
        Works.same("12: another which", w.it.found(0, -1), NONE);
        w.it.all(0);
        Works.same("12: the latest", w.it.found(1, 0), NONE);
    }

    private static void replace() {
        Works w = new Works();
        w.compile(0, 0, "(?P<one>a)(b)?");
        w.subject("xabay");
        Works.same("13: groups", w.replace(0, "[$1|$2|$0]"), "x[a|b|ab][a||a]y");
        Works.same("13: names", w.replace(0, "${one}$$1"), "xa$1a$1y");
        w.compile(3, 0, "(?P<one>a)(?P<on2>b)?(?P<o>)");
        Works.same("13: more names", w.replace(3, "<${on2}${o}${one}>"), "x<ba><a>y");
        Works.same("13: $10 is $1 and 0", w.replace(0, "$10"), "xa0a0y");
        Works.same("13: nothing", w.replace(0, ""), "xy");
        Works.same("13: any bytes", w.replace(0, "\u00FF\0"), "x\u00FF\0\u00FF\0y");
        String[] bad = {"$", "a$", "$x", "$3", "$9", "${two}", "${one", "${}", "${ one}", "${1}", "$ {one}", "$-1"};
        for (String template : bad) {
            Works.same("13: " + template, w.replace(0, template), "refused");
            Works.same("13: the tape is empty then", w.it.end(0), 0);
        }
        Works.same("13: the output stays", w.output(6), "x\u00FF\0\u00FF\0y");
        w.put("$0");
        Works.refused("13: no pattern", () -> w.it.replace(1));
        Works.refused("13: no slot", () -> w.it.replace(-1));
        Works.same("13: the tape stays then", w.it.end(0), 2);
        Works.same("13: it is the template then", w.it.replace(0), 5);
        w.compile(4, 0, "(((((((((a)))))))))");
        Works.same("13: nine groups", w.replace(4, "$9$8$0"), "xaaabaaay");
        w.subject("y");
        Works.same("13: a template is looked at without a match", w.replace(0, "$"), "refused");
        Works.same("13: without a match", w.replace(0, "$1$2"), "y");
        w.compile(1, 0, "");
        Works.same("13: nothing is replaced, too", w.replace(1, "-"), "-y-");
        longOutputs();
    }

    private static void longOutputs() {
        Works w = new Works();
        w.compile(2, 0, ".");
        w.subject("a".repeat(600));
        String due = "0123456789".repeat(600);
        Works.same("13: 6000", w.replaceLength(2, "0123456789"), "6000");
        Works.same("13: more than 6000", w.replaceLength(2, "0123456789x"), "refused");
        Works.same("13: the tape is empty then", w.it.end(0), 0);
        Works.same("13: the output stays", w.outputLike(due), due);
        w.compile(2, 0, "(?:a{100}){3}");
        Works.same("13: a long template", w.replaceLength(2, "x".repeat(1000)), "2000");
        w.compile(2, 0, "(a*)");
        Works.same("13: groups count", w.replaceLength(2, "$0$0$1$1$1$1$1$1$1$1"), "6000");
        Works.same("13: more than 6000 by groups", w.replaceLength(2, "$0$0$1$1$1$1$1$1$1$1-"), "refused");
    }

    private static void split(String pattern, String subject, String due) {
        Works w = new Works();
        w.compile(0, 0, pattern);
        w.subject(subject);
        Works.same("14: " + pattern + " on " + subject, w.split(0), due);
    }

    private static void split() {
        split(",", "a,b,,c", "0-1 2-3 4-4 5-6");
        split(",", ",a,", "0-0 1-2 3-3");
        split(",", "abc", "0-3");
        split("", "abc", "0-1 1-2 2-3");
        split("", "", "0-0");
        split("x*", "", "0-0");
        split("x*", "axxb", "0-1 3-4");
        split("abc", "abc", "0-0 3-3");
        split("$", "ab", "0-2");
        split("\\b", "ab cd", "0-2 2-3 3-5");
        Works w = new Works();
        w.compile(0, 0, " ");
        w.subject("a b");
        Works.same("14: how many", w.it.split(0), 2);
        Works.refused("14: no pattern", () -> w.it.split(1));
        Works.refused("14: no slot", () -> w.it.split(-1));
        w.subject("");
        w.it.all(0);
        Works.same("15: still there", w.it.piece(1, 0), 2);
        Works.same("15: its end", w.it.piece(1, 1), 3);
        Works.same("15: no such", w.it.piece(2, 0), NONE);
        Works.same("15: no such", w.it.piece(-1, 0), NONE);
        Works.same("15: another which", w.it.piece(0, 2), NONE);
        Works.same("15: another which", w.it.piece(0, -1), NONE);
    }

    private static void which() {
        Works w = new Works();
        w.compile(0, 0, "a");
        w.compile(1, 0, "b+");
        w.compile(3, 16, "a|ab");
        w.compile(5, 0, "^$");
        w.subject("ab");
        Works.same("16: search", w.it.which(63, false), 1 + 2 + 8);
        Works.same("16: whole", w.it.which(63, true), 8);
        Works.same("16: some of them", w.it.which(2 + 4, false), 2);
        Works.same("16: other bits count for nothing", w.it.which(-1, false), 1 + 2 + 8);
        Works.same("16: other bits count for nothing", w.it.which(64, false), 0);
        Works.same("16: none", w.it.which(0, false), 0);
        w.subject("");
        Works.same("16: the empty subject", w.it.which(63, true), 32);
        w.compile(4, 0, "[\u0100-\u0200\u0300\u0302\u0304]é\\C|\\B.$");
        w.subject("\u0304é!");
        Works.same("16: by bytes", w.it.which(16, true), 16);
        w.subject("\u0303é!");
        Works.same("16: by bytes", w.it.which(16, true), 0);
        Works.same("16: by bytes", w.it.which(16, false), 16);
    }

    private static void quoteAndOutput() {
        Works w = new Works();
        w.put(Works.raw("aZ09_.\\ \n\0\u00C3\u00A9-\u00FF"));
        Works.same("17: length", w.it.quote(), 20);
        Works.same("17: output", w.output(20), "aZ09_\\.\\\\\\ \\\n\\\0\u00C3\u00A9\\-\u00FF");
        Works.same("17: the tape is empty then", w.it.end(0), 0);
        Works.same("17: nothing", w.it.quote(), 0);
        Works.same("18: nothing", w.it.output(0), NONE);
        w.put("*".repeat(2000));
        Works.same("17: as long as may be", w.it.quote(), 4000);
        Works.same("18: the last", w.it.output(3999), '*');
        Works.same("18: behind it", w.it.output(4000), NONE);
        Works.same("18: ahead", w.it.output(-1), NONE);
        Works.same("18: a byte", w.it.output(0), '\\');
        w.put(Works.raw("\u007F\u0080"));
        Works.same("17: below 128", w.it.quote(), 3);
        w.put(Works.raw("\u00FF"));
        w.it.quote();
        Works.same("18: bytes are 0 to 255", w.it.output(0), 255);
        w.put("a.b*c");
        w.it.quote();
        byte[] quoted = Works.raw(w.output(7));
        w.compile(0, 0, quoted);
        w.subject("a.b*c");
        Works.same("17: it matches itself", w.match(0, 2, 0, 0), "0-5");
    }

    private static void keepAndOver() {
        Works w = new Works();
        Works.refused("19: 3", () -> w.it.keep(3));
        Works.refused("19: 65", () -> w.it.keep(65));
        Works.refused("19: -1", () -> w.it.keep(-1));
        w.compile(0, 0, "(?:a|b)*a(?:a|b){6}$");
        w.subject("abbabaaabbbababbbabaabbbbaabbabab");
        String due = w.match(0, 0, 1, 0);
        int[] kept = {4, 5, 32, 64, 4};
        for (int states : kept) {
            w.it.keep(states);
            Works.same("19: nothing hangs on it", w.match(0, 0, 4, 0), due);
            Works.same("19: nothing hangs on it", w.it.which(1, false), 1);
            Works.same("19: nothing hangs on it", w.it.which(1, true), 1);
        }
        w.compile(1, 0, "((a{0,10}){1,5}){0,3}[bc]");
        w.subject("a".repeat(2000));
        for (int machine = 0; machine < 5; machine++) {
            Works.same("20: a steep pattern", w.match(1, 0, machine, 0), "none");
        }
        w.compile(2, 0, "(?:a*b)?");
        Works.same("20: many matches", w.it.all(2), 2001);
        Works.same("20: over", w.it.over(), 0);
    }
}
