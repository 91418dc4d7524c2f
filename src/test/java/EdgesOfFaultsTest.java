/** The edges of FAULTS, their places and their order, and of SIZE: a check of its own for each sentence. */
public final class EdgesOfFaultsTest {
    private static final String DEEP = "(?:".repeat(30);

    public static void main(String[] args) {
        firstMet();
        oddBytes();
        groupsAndClassesThatEnd();
        escapes();
        ranges();
        kinds();
        strayRepeats();
        counts();
        heads();
        limitsOfGroups();
        cutOffs();
        tooBig();
        sizesOfParts();
        sizesOfClasses();
        sizesOfRepeats();
        Works.finish("EdgesOfFaultsTest");
    }

    private static void fault(int kind, int place, String pattern) {
        Works.readsRaw(pattern, "fault " + kind + " at " + place);
    }

    private static void fine(String pattern) {
        Works works = new Works();
        Works.same(pattern, works.compile(0, 0, Works.raw(pattern)).startsWith("fault") ? 1 : 0, 0);
        Works.same(pattern + " has no fault", works.it.fault(0), 0);
        Works.same(pattern + " has no place of one", works.it.fault(1), PatternWorks.NONE);
    }

    private static void firstMet() {
        Works.sentence("FAULTS, the first that is met by reading from left to right (so [\\ is 5, ..");
        fault(5, 1, "[\\");
        fault(5, 1, "(\\");
        fault(5, 2, "([\\");
        fault(1, 1, "a\u00FF)*");
        fault(3, 1, "a)\u00FF");
        fault(8, 0, "*)");
        fault(3, 0, ")*");
        fault(5, 0, "\\q\u00FF");
        fault(9, 1, "a{101})");
        fault(7, 0, "\\pX\\q");
        fault(6, 1, "[b-a\u00FF");
        fault(1, 1, "[\u00FFb-a]");
        fault(10, 0, "(?x)(");
        Works.sentence("a class's 4 and a group's 10 are met ahead of 2");
        fault(4, 1, "([a");
        fault(4, 3, "(?:[a");
        fault(10, 1, "((?");
        fault(10, 2, "(((?");
        fault(10, 1, "((?P<n");
        fault(10, 1, "((?i-");
        Works.sentence("(a** is 8");
        fault(8, 3, "(a**");
        fault(8, 1, "(*");
        fault(9, 2, "(a{2,1}");
        fault(7, 1, "(\\pX");
        fault(1, 1, "(\u00FF");
        Works.sentence("where two could be told of the same byte the least");
        fault(8, 0, "{101}");
        fault(8, 0, "{2,1}");
        fault(8, 2, "a*{101}");
        fault(8, 2, "a|{2,1}");
        fault(8, 4, "(?i){101}");
        fault(8, 1, "({101}");
        fault(1, 0, "\u00C3");
    }

    private static void oddBytes() {
        Works.sentence("1 an ODD byte: at it");
        fault(1, 0, "\u0080");
        fault(1, 2, "ab\u00FF");
        fault(1, 2, "\u00C3\u00A9\u00A9");
        fault(1, 0, "\u00E2\u0082");
        fault(1, 0, "\u00E2\u0082a");
        fault(1, 3, "\u00E2\u0082\u00AC\u00E2");
        fault(1, 1, "(\u00BF)");
        fault(1, 1, "[\u00BF]");
        fault(1, 2, "[^\u00BF]");
        fault(1, 2, "[a\u00BF]");
        fault(1, 3, "[a-\u00BF]");
        fault(1, 2, "a|\u00F0\u009F\u0098");
        fault(1, 2, "a*\u00F5");
        fault(1, 1, "a" + "\u00F0\u009F\u0098");
        fault(1, 2, "a{\u00FF");
        fault(1, 4, "a{1,\u00FF}");
        fault(1, 7, "(?P<n>a\u00FF)");
        fault(1, 1999, "a".repeat(1999) + "\u00C2");
    }

    private static void groupsAndClassesThatEnd() {
        Works.sentence("2 the pattern ends in a group: at the ( of the innermost one");
        fault(2, 0, "(");
        fault(2, 0, "(a");
        fault(2, 1, "((");
        fault(2, 0, "(a()");
        fault(2, 4, "(a)b(?:");
        fault(2, 0, "((?P<n>a)|(b)|");
        fault(2, 2, "a|(?i:b");
        fault(2, 0, "(?i:(?s)");
        fault(2, 0, "(?P<n>");
        fault(2, 3, "(a|(?:");
        fault(2, 87, DEEP);
        Works.sentence("3 a ) without a group: at it");
        fault(3, 0, ")");
        fault(3, 1, "a)");
        fault(3, 3, "(a))");
        fault(3, 4, "(?i))");
        fault(3, 2, "a|)");
        fault(3, 2, "())");
        fine("\\)");
        fine("[)]");
        Works.sentence("4 the pattern ends in a class: at its [");
        fault(4, 0, "[");
        fault(4, 0, "[^");
        fault(4, 0, "[]");
        fault(4, 0, "[^]");
        fault(4, 0, "[a");
        fault(4, 0, "[a-");
        fault(4, 0, "[a-b");
        fault(4, 0, "[[");
        fault(4, 0, "[[a");
        fault(4, 2, "ab[cd");
        fault(4, 3, "[a][b");
        fault(4, 0, "[\\]");
        fault(4, 0, "[\\d");
        fault(4, 0, "[[:digit:]");
        fault(4, 0, "[a(?x)");
        fault(4, 0, "[a)*");
    }

    private static void escapes() {
        Works.sentence("5 no such escape: at its \\");
        fault(5, 0, "\\q");
        fault(5, 2, "ab\\E");
        fault(5, 0, "\\Q");
        fault(5, 0, "\\0");
        fault(5, 0, "\\9");
        fault(5, 0, "\\_");
        fault(5, 0, "\\Z");
        fault(5, 0, "\\xg");
        fault(5, 1, "[\\q]");
        fault(5, 2, "[a\\8]");
        Works.sentence("(also one that the pattern's end cuts off");
        fault(5, 0, "\\");
        fault(5, 1, "a\\");
        fault(5, 0, "\\x");
        fault(5, 0, "\\x4");
        fault(5, 0, "\\x{");
        fault(5, 0, "\\x{4");
        fault(5, 0, "\\x{41");
        fault(5, 0, "\\x{000041");
        fault(5, 1, "[\\");
        fault(5, 1, "[\\x");
        fault(5, 3, "[a-\\");
        fault(5, 3, "[a-\\x{1");
        Works.sentence("one of a byte above 127");
        fault(5, 0, "\\\u00C3\u00A9");
        fault(5, 0, "\\\u0080");
        fault(5, 0, "\\\u00FF");
        fault(5, 1, "[\\\u00C3\u00A9]");
        fault(5, 3, "[a-\\\u00FF]");
        fine("\\\u007F");
        Works.sentence("\\A \\z \\b \\B \\C in a class)");
        for (char letter : "AzbBC".toCharArray()) {
            fine("\\" + letter);
            fault(5, 1, "[\\" + letter + "]");
            fault(5, 2, "[x\\" + letter);
            fault(5, 3, "[a-\\" + letter + "]");
        }
    }

    private static void ranges() {
        Works.sentence("6 a range that ends below its beginning: at its beginning");
        fault(6, 1, "[b-a]");
        fine("[a-a]");
        fault(6, 3, "[xyb-a]");
        fault(6, 2, "[^b-a]");
        fault(6, 1, "[\\x62-\\x61]");
        fault(6, 1, "[\\x{100}-\u00C3\u00BF]");
        fault(6, 1, "[a-[]");
        fault(6, 1, "[a-\\x00]");
        fault(6, 1, "[\\x01-\0]");
        fine("[\\x00-\0]");
        fault(6, 1, "[]-\\[]");
        fault(6, 1, "[--+]");
        fault(6, 4, "[a-b--+]");
        fault(6, 5, "(\\[)[b-a");
        fault(6, 1, "[\\x{10FFFF}-\\x{10FFFE}]");
        Works.sentence("or whose end is \\d, \\s, \\w, \\p or one of those that are not");
        for (String kind : new String[] {"\\d", "\\D", "\\s", "\\S", "\\w", "\\W", "\\pL", "\\PL", "\\pN", "\\PY", "\\pG"}) {
            fault(6, 1, "[a-" + kind + "]");
            fault(6, 1, "[a-" + kind);
            fault(6, 3, "[\\d\\x00-" + kind + "]");
            fine("[" + kind + "-a]");
            fine("[" + kind + "-]");
            fine("[a-b" + kind + "]");
        }
        Works.sentence("or a [ with : behind it (whatever follows): at its beginning");
        fault(6, 1, "[a-[:digit:]]");
        fault(6, 1, "[a-[:foo:]]");
        fault(6, 1, "[a-[:]");
        fault(6, 1, "[a-[:");
        fault(6, 1, "[A-[:]");
        fault(6, 2, "[xA-[:^alpha:]]");
        fine("[A-[]");
        fine("[A-[a:]");
        fine("[A-\\[:]");
        Works.sentence("(but an escape there that is none, or \\p without such a letter, is 5 or 7 at its \\)");
        fault(5, 3, "[a-\\q]");
        fault(5, 3, "[a-\\_]");
        fault(5, 3, "[a-\\b]");
        fault(5, 3, "[a-\\x4]");
        fault(5, 3, "[a-\\x{D800}]");
        fault(7, 3, "[a-\\pX]");
        fault(7, 3, "[a-\\P{L}]");
        fault(7, 3, "[a-\\p]");
        fault(5, 3, "[a-\\p");
        fault(5, 3, "[a-\\");
    }

    private static void kinds() {
        Works.sentence("7 [: and no such name and :] (in a class; looked at when : stands behind [): at that [");
        fault(7, 1, "[[:foo:]]");
        fault(7, 2, "[a[:foo:]]");
        fault(7, 2, "[^[:foo:]]");
        fault(7, 5, "[]\\d-[:x");
        fault(7, 1, "[[:alpha:");
        fault(7, 1, "[[:alpha]");
        fault(7, 1, "[[:");
        fault(7, 1, "[[:]");
        fault(7, 1, "[[:\u00FF");
        fault(7, 1, "[[:^alph:]]");
        fault(7, 1, "[[:ALPHA:]]");
        fault(7, 1, "[[:alnum:]]");
        fault(7, 11, "[[:alpha:]a[:xdigit:]]");
        fine("[[:alpha:]]");
        fine("[[a:]]");
        fine("[[]:foo:]");
        fine("[\\[:foo:]");
        fine("[:foo:]");
        Works.sentence("\\p, \\P and no such letter: at the \\ (5 if the pattern ends there)");
        for (int item = 0; item < 256; item++) {
            boolean told = "LNGY".indexOf(item) >= 0;
            Works.readsRaw("\\p" + (char) item, told ? "0" : "fault 7 at 0");
            Works.readsRaw("[\\P" + (char) item + "]", told ? "0" : "fault 7 at 1");
        }
        fault(5, 0, "\\p");
        fault(5, 0, "\\P");
        fault(5, 2, "ab\\p");
        fault(5, 1, "[\\p");
        fault(5, 1, "(\\P");
        fault(7, 1, "(\\P)");
        fault(7, 1, "[\\p]");
    }

    private static void strayRepeats() {
        Works.sentence("8 a repeat at the beginning of a row, behind (?flags), or right behind a repeat: at it");
        for (String repeat : new String[] {"*", "+", "?", "{2}", "{2,}", "{2,3}", "{0}"}) {
            fault(8, 0, repeat);
            fault(8, 2, "a|" + repeat);
            fault(8, 1, "|" + repeat);
            fault(8, 2, "((" + repeat.replace('?', '*') + ")");
            fault(8, 3, "(a|" + repeat + ")");
            fault(8, 3, "(?:" + repeat + ")");
            fault(8, 4, "(?i:" + repeat + ")");
            fault(8, 6, "(?P<n>" + repeat + ")");
            fault(8, 4, "(?i)" + repeat);
            fault(8, 3, "(?)" + repeat);
            fault(8, 5, "a(?s)" + repeat);
            fault(8, 6, "(?i-s)" + repeat);
            fault(8, 3, "a*?" + repeat);
            fault(8, 3, "a+?" + repeat);
            fault(8, 3, "a??" + repeat);
            fault(8, 5, "a{2}?" + repeat);
            if (!repeat.equals("?")) {
                fault(8, 2, "a*" + repeat);
                fault(8, 2, "a+" + repeat);
                fault(8, 2, "a?" + repeat);
                fault(8, 4, "a{2}" + repeat);
                fault(8, 5, "a{2,}" + repeat);
                fault(8, 6, "a{2,3}" + repeat);
            }
            fine("(?:a*)" + repeat);
            fine("()" + repeat);
            fine("^" + repeat);
            fine("(|)" + repeat);
            fine("\\*" + repeat);
            fine("[*]" + repeat);
            fine("(?i)a" + repeat);
            fine("}" + repeat);
            fine("{" + repeat);
            fine("]" + repeat);
        }
    }

    private static void counts() {
        Works.sentence("9 n above m, or one above 100: at the {");
        fine("a{100}");
        fault(9, 1, "a{101}");
        fault(9, 1, "a{999}");
        fine("a{100,}");
        fault(9, 1, "a{101,}");
        fine("a{0,100}");
        fault(9, 1, "a{0,101}");
        fault(9, 1, "a{101,0}");
        fault(9, 1, "a{101,101}");
        fine("a{100,100}");
        fault(9, 1, "a{100,99}");
        fine("a{1,1}");
        fault(9, 1, "a{1,0}");
        fault(9, 1, "a{2,1}?");
        fault(9, 3, "(a){2,1}");
        fault(9, 4, "(a)b{2,1}");
        fault(9, 2, "\\b{101}");
        fault(9, 3, "[a]{101}");
        fine(".{101");
        fine("a{1001}");
        fine("a{0}");
    }

    private static void heads() {
        Works.sentence("10 (? and nothing that is told (also cut off by the pattern's end): at the (");
        String[] wrong = {"(?", "(?P", "(?P<", "(?P<a", "(?P<>", "(?P<>a)", "(?P>a)", "(?P=a)", "(?P:a)", "(?p<a>b)", "(?<a>b)",
            "(?P<a b>c)", "(?P<a\u00FF>c)", "(?P<abcdefghijklm>)", "(?=a)", "(?!a)", "(?#a)", "(?x)", "(?i", "(?i-", "(?-", "(?-)", "(?i-)",
            "(?-:a)", "(?i-i", "(?imsU", "(?i m)", "(?i,m)", "(?*a)", "(?(", "(?\u00FF)", "(?i\u00FF)", "(??)", "(?[a])", "(?P)", "(?P<n)",
            "(?iP<n>a)", "(? i)"};
        for (String head : wrong) {
            fault(10, 0, head);
            fault(10, 3, "ab(" + head);
            fault(10, 2, "()" + head);
        }
        fine("(?)");
        fine("(?:)");
        fine("(?P<n>)");
        Works.sentence("11 a name that is there: at the (");
        fault(11, 8, "(?P<n>a)(?P<n>b)");
        fault(11, 7, "(?P<n>a(?P<n>b))");
        fault(11, 11, "(?P<n>a){0}(?P<n>");
        fault(11, 9, "(?P<n>a)|(?P<n>b)");
        fault(11, 24, "(?P<abcdefghijkl>)(?:)a|(?P<abcdefghijkl>)");
        fine("(?P<n>a)(?P<N>b)");
        fine("(?P<n>a)(?P<nn>b)");
        fine("(?P<nn>a)(?P<n>b)");
        fine("(?P<ab>)(?P<ba>)(?P<aa>)(?P<bb>)");
        fine("(?P<abcdefghijkl>)(?P<abcdefghijkm>)(?P<bbcdefghijkl>)");
        Works works = new Works();
        works.compile(0, 0, "(?P<n>a)");
        Works.same("names of other patterns are none", works.compile(1, 0, "(?P<n>a)"), "1");
        Works.same("nor those of the slot's", works.compile(1, 0, "(?P<n>a)"), "1");
        works.compile(2, 0, "(?P<m>a)(");
        Works.same("nor those of one with a fault", works.compile(2, 0, "(?P<m>a)"), "1");
    }

    private static void limitsOfGroups() {
        Works.sentence("12 more than 30 groups within one another (of any kind but (?flags)): at the (");
        String close = ")".repeat(30);
        fine(DEEP + close);
        fine(DEEP + "(?i)(?s)(?)" + close);
        fault(12, 90, DEEP + "()" + close);
        fault(12, 90, DEEP + "(?:)" + close);
        fault(12, 90, DEEP + "(?i:)" + close);
        fault(12, 90, DEEP + "(?P<n>)" + close);
        fault(12, 94, DEEP + "(?i)(");
        fine("(?:".repeat(29) + "()()" + ")".repeat(29) + DEEP + close);
        fine("(?i:".repeat(30) + close);
        fault(12, 120, "(?i:".repeat(30) + "(");
        fine("(".repeat(9) + "(?:".repeat(21) + close);
        fault(12, 9 + 63, "(".repeat(9) + "(?:".repeat(21) + "(?:");
        fine(DEEP + close + DEEP + close);
        Works.sentence("13 more than 9 numbered: at the (");
        fine("()".repeat(9));
        fault(13, 18, "()".repeat(10));
        fault(13, 9, "(".repeat(10));
        fault(13, 18, "()".repeat(9) + "(?P<n>)");
        fine("()".repeat(9) + "(?:)(?i:)(?i)");
        fault(13, 18, "()".repeat(9) + "(a){0}");
        fault(13, 45, "(){0}".repeat(10));
        fault(13, 27, "()".repeat(9) + "(?:(?:(?:(");
        Works.sentence("(At one ( 10, 11, 12, 13 in this order.)");
        String nine = "(?P<n>)" + "()".repeat(8);
        fault(10, 113, nine + DEEP + "(?x");
        fault(10, 113, nine + DEEP + "(?P<n");
        fault(11, 113, nine + DEEP + "(?P<n>");
        fault(12, 113, nine + DEEP + "(?P<m>");
        fault(12, 113, nine + DEEP + "(");
        fault(11, 23, nine + "(?P<n>");
        fault(10, 23, nine + "(?P<n->");
        fault(13, 23, nine + "(?P<m>");
        fault(13, 23, nine + "(");
        fault(13, 110, nine + DEEP.substring(3) + "(");
    }

    /** What was on the tape before, behind the end of the pattern, is nothing of it. */
    private static void cutOffs() {
        Works.sentence("(also cut off by the pattern's end)");
        String[] whole = {"a[[:^digit:][:alpha:]]", "(?P<abcdefghijkl>a){2,3}?", "(?i-ms:a)(?U)", "\\x{10FFFF}\\x41\\pL\\P", "[a-\\x{61}]*?",
            "((?P<n>a)|[^]a-z])+", "a{12,100}b{3}c{0,}", "(?P<n>a)(?P<m>b)(?P<nm>c)", "\u00E9\u20AC[\u00E9-\u20AC]"};
        for (String text : whole) {
            byte[] all = Works.utf8(text);
            for (int length = 0; length < all.length; length++) {
                byte[] cut = java.util.Arrays.copyOf(all, length);
                Works works = new Works();
                works.compile(0, 0, all);
                Works.same(new String(cut, java.nio.charset.StandardCharsets.ISO_8859_1) + " behind " + text, works.compile(0, 0, cut),
                    new Works().compile(0, 0, cut));
            }
        }
    }

    private static void tooBig() {
        Works.sentence("Behind all: 14, place NONE: SIZE above 400");
        fine("a".repeat(400));
        fault(14, -1, "a".repeat(401));
        fault(14, -1, "a".repeat(2000));
        fine("(?:a{100}){4}");
        fault(14, -1, "(?:a{100}){4}a");
        fault(14, -1, "(?:a{100}){100}");
        fine("(?:(?:a{100}){100}){0}");
        Works.size("(?:(?:a{100}){100}){0}b", 0, 1);
        fault(14, -1, "(?:(?:(?:(?:(?:a{100}){100}){100}){100}){100}){100}");
        fault(3, 401, "a".repeat(401) + ")");
        fault(2, 401, "a".repeat(401) + "(");
        fault(5, 401, "a".repeat(401) + "\\");
        fault(8, 401, "a".repeat(400) + "|*");
        fault(14, -1, "(?:a{100}){5}|b");
        Works.size("(?:a{99}b?){3}|a{96}", 0, 3 * 101 + 1 + 96);
        fault(14, -1, "(?:a{99}b?){3}|a{97}");
    }

    private static void sizesOfParts() {
        Works.sentence("SIZE: of a character 1 (with i on, when others are alike: as a class)");
        Works.size("a", 0, 1);
        Works.size("\\x{10FFFF}", 0, 1);
        Works.size("\u20AC", 1, 1);
        Works.size("a", 1, 10);
        Works.size("\\x61", 1, 10);
        Works.size("k", 1, 14);
        Works.size("(?i)\u03C2", 0, 10);
        Works.size("5_-", 1, 3);
        Works.size("\u00F7\u00D7\u00DF\u00FF", 1, 4);
        Works.size("(?-i)a(?i)a", 1, 11);
        Works.sentence("\\C 1; ^ $ \\A \\z \\b \\B 1");
        for (String part : new String[] {"\\C", "^", "$", "\\A", "\\z", "\\b", "\\B"}) {
            Works.size(part, 0, 1);
            Works.size(part, 15, 1);
        }
        Works.sentence("a group 2 more if it is numbered");
        Works.size("()", 0, 2);
        Works.size("(?:)", 0, 0);
        Works.size("(?i:a)", 0, 10);
        Works.size("(?P<n>a)", 0, 3);
        Works.size("((a))", 0, 5);
        Works.sentence("a row, alternatives: the sum, and 1 for each |");
        Works.size("", 0, 0);
        Works.size("|", 0, 1);
        Works.size("||", 0, 2);
        Works.size("ab|c", 0, 4);
        Works.size("(?:|)|", 0, 2);
        Works.sentence("(?flags), an empty row, x{0}: 0");
        Works.size("(?i)(?-s)(?)", 0, 0);
        Works.size("a{0}(b){0}[c]{0}(?:d|e){0}", 0, 0);
        Works.size("a{0,0}", 0, 0);
        Works.size("a{0}?", 0, 0);
    }

    private static void sizesOfClasses() {
        Works.sentence("of a class 2 and 4 for each range of it (ranges as few as may be, apart by more than 1");
        Works.size("[a]", 0, 6);
        Works.size("[ab]", 0, 6);
        Works.size("[ba]", 0, 6);
        Works.size("[ac]", 0, 10);
        Works.size("[acb]", 0, 6);
        Works.size("[a-cd-f]", 0, 6);
        Works.size("[a-cb-f]", 0, 6);
        Works.size("[a-ce-f]", 0, 10);
        Works.size("[aaaa]", 0, 6);
        Works.size("[\\d0-9]", 0, 6);
        Works.size("[\\s]", 0, 14);
        Works.size("[\\s\\v]", 0, 10);
        Works.size("[[:punct:]]", 0, 18);
        Works.size("[[:punct:]\\w]", 0, 6);
        Works.size("[a]", 1, 10);
        Works.size("[A-Za-z]", 1, 18);
        Works.size("[A-z]", 1, 14);
        Works.size("[^\\w\\W]", 0, 2);
        Works.sentence("none goes over 55296 .. 57343, so [^a] has three, . with s two)");
        Works.size("[^a]", 0, 14);
        Works.size(".", 4, 10);
        Works.size("[\\x{D7FF}\\x{E000}]", 0, 10);
        Works.size("[\\x{D7FF}-\\x{E000}]", 0, 10);
        Works.size("[\\x{D7FE}-\\x{D7FF}]", 0, 6);
        Works.size("[\\x{E000}-\\x{E001}]", 0, 6);
        Works.size("[^\\x{D7FF}]", 0, 10);
        Works.size("[^\\x{E000}]", 0, 10);
        Works.size("[^\\x00-\\x{D7FF}]", 0, 6);
        Works.size("[^\\x{E000}-\\x{10FFFF}]", 0, 6);
        Works.size("[^\\x00]", 0, 10);
        Works.size("[^\\x00-\\x{10FFFF}]", 0, 2);
        Works.size("[^\\x00-\\x{10FFFE}]", 0, 6);
        Works.size("[^\\x01-\\x{10FFFF}]", 0, 6);
        Works.size("[^\\x{10FFFF}]", 0, 10);
        Works.size("\\D", 0, 14);
        Works.size("[^\\D]", 0, 6);
        Works.sentence(". as a class");
        Works.size(".", 0, 14);
        Works.size("(?s).", 0, 10);
        Works.size("\\w", 0, 18);
        Works.size("\\pL", 0, 38);
        Works.size("\\PN", 0, 26);
        Works.size("\\pG", 1, 6);
    }

    private static void sizesOfRepeats() {
        Works.sentence("x* and x? 1 more; x+ twice x and 1");
        Works.size("a*", 0, 2);
        Works.size("a*?", 0, 2);
        Works.size("a?", 0, 2);
        Works.size("a??", 8, 2);
        Works.size("a+", 0, 3);
        Works.size("(ab)*", 0, 5);
        Works.size("(ab)+", 0, 9);
        Works.size("(?:)*", 0, 1);
        Works.size("(?:)?", 0, 1);
        Works.size("(?:)+", 0, 1);
        Works.size("(?:a+)+", 0, 7);
        Works.sentence("x{n,} n times x, and x and 1 (n 0: as *)");
        Works.size("a{0,}", 0, 2);
        Works.size("a{1,}", 0, 3);
        Works.size("a{2,}", 0, 4);
        Works.size("a{100,}", 0, 102);
        Works.size("(a){2,}", 0, 10);
        Works.sentence("x{n,m} m times x, and m - n");
        Works.size("a{1}", 0, 1);
        Works.size("a{0,1}", 0, 2);
        Works.size("a{1,1}", 0, 1);
        Works.size("a{2,2}", 0, 2);
        Works.size("a{1,3}", 0, 5);
        Works.size("(a){0,3}", 0, 12);
        Works.size("a{0,100}", 0, 200);
        Works.size("a{100}", 0, 100);
        Works.size("(?:){3,7}", 0, 4);
        Works.size("(?:a{0,100}){2}", 0, 400);
        fault(14, -1, "(?:a{0,100}){2}b");
        Works.size("(?:a{2}){3,4}", 0, 9);
    }
}
