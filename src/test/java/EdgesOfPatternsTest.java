import java.nio.ByteBuffer;
import java.nio.charset.CharacterCodingException;
import java.nio.charset.StandardCharsets;

/** The edges that the document's 'Terms' name for what a pattern is made of: a check of its own for each sentence. */
public final class EdgesOfPatternsTest {
    /** Behind all characters that have anything to do with kinds or being alike, and some more. */
    private static final int FAR = 1600;

    public static void main(String[] args) {
        characters();
        rows();
        plainCharacters();
        bracesThatAreCharacters();
        dots();
        endsOfLines();
        numbersOfGroups();
        names();
        flagsOfGroups();
        reachOfFlags();
        assertions();
        controls();
        hexadecimals();
        kinds();
        anyByte();
        otherEscapes();
        classes();
        manyRanges();
        ranges();
        namedKinds();
        alike();
        alikeInClasses();
        repeats();
        laziness();
        Works.finish("EdgesOfPatternsTest");
    }

    private static String bytes(int... items) {
        StringBuilder text = new StringBuilder();
        for (int item : items) {
            text.append((char) item);
        }
        return text.toString();
    }

    private static boolean isUtf8(byte[] bytes) {
        try {
            StandardCharsets.UTF_8.newDecoder().decode(ByteBuffer.wrap(bytes));
            return true;
        } catch (CharacterCodingException e) {
            return false;
        }
    }

    private static void characters() {
        Works.sentence("CHARACTERS are 0 .. 1114111 but 55296 .. 57343, in bytes as UTF-8 has them");
        int[] taken = {0, 1, 126, 127, 128, 2047, 2048, 55295, 57344, 65535, 65536, 1114110, 1114111};
        for (int code : taken) {
            String text = new String(Character.toChars(code));
            Works.reads(text, "0");
            Works.takes(text, text);
            Works.takes("(?s).", text);
        }
        Works.readsRaw(bytes(0xED, 0xA0, 0x80), "fault 1 at 0");
        Works.readsRaw(bytes(0xED, 0xBF, 0xBF), "fault 1 at 0");
        Works.readsRaw(bytes(0xF4, 0x90, 0x80, 0x80), "fault 1 at 0");
        Works.finds("(?s).", bytes(0xED, 0xA0, 0x80), "none");
        Works.finds("(?s).", bytes(0xED, 0xBF, 0xBF), "none");
        Works.finds("(?s).", bytes(0xF4, 0x90, 0x80, 0x80), "none");

        Works.sentence("(of least length, nothing else)");
        Works.readsRaw(bytes(0xC0, 0x80), "fault 1 at 0");
        Works.readsRaw(bytes(0xC1, 0xBF), "fault 1 at 0");
        Works.readsRaw(bytes(0xC2, 0x80), "0");
        Works.readsRaw(bytes(0xE0, 0x9F, 0xBF), "fault 1 at 0");
        Works.readsRaw(bytes(0xE0, 0xA0, 0x80), "0");
        Works.readsRaw(bytes(0xF0, 0x8F, 0xBF, 0xBF), "fault 1 at 0");
        Works.readsRaw(bytes(0xF0, 0x90, 0x80, 0x80), "0");
        Works.finds("(?s).", bytes(0xC1, 0xBF, 0xC2, 0x80), "2-4");
        Works.finds("(?s).", bytes(0xE0, 0x9F, 0xBF, 0xE0, 0xA0, 0x80), "3-6");
        Works.finds("(?s).", bytes(0xF0, 0x8F, 0xBF, 0xBF, 0xF0, 0x90, 0x80, 0x80), "4-8");

        Works.sentence("a byte that begins no character is ODD");
        int[] leads = {0x7F, 0x80, 0xBF, 0xC0, 0xC1, 0xC2, 0xDF, 0xE0, 0xE1, 0xEC, 0xED, 0xEE, 0xEF, 0xF0, 0xF1, 0xF3, 0xF4,
            0xF5, 0xF8, 0xFF};
        int[] tails = {0x00, 0x41, 0x7F, 0x80, 0x8F, 0x90, 0x9F, 0xA0, 0xBF, 0xC0, 0xFF};
        for (int lead : leads) {
            beginsOrIsOdd(lead);
            for (int second : tails) {
                beginsOrIsOdd(lead, second);
                for (int third : tails) {
                    beginsOrIsOdd(lead, second, third);
                    beginsOrIsOdd(lead, second, third, 0x80);
                    beginsOrIsOdd(lead, second, third, 0xBF);
                    beginsOrIsOdd(lead, second, third, 0x7F);
                    beginsOrIsOdd(lead, second, third, 0xC0);
                }
            }
        }
    }

    /** The first byte begins a character of as many bytes as it says, or it is odd, in patterns and in subjects. */
    private static void beginsOrIsOdd(int... items) {
        byte[] all = Works.raw(bytes(items));
        int width = items[0] < 0x80 ? 1 : items[0] < 0xE0 ? 2 : items[0] < 0xF0 ? 3 : 4;
        boolean begins = width <= all.length && isUtf8(java.util.Arrays.copyOf(all, width));
        Works works = new Works();
        String told = works.compile(0, 0, all);
        String name = java.util.Arrays.toString(items);
        Works.same(name + " is odd at its beginning", told.equals("fault 1 at 0") ? 1 : 0, begins ? 0 : 1);
        works.compile(1, 4, ".");
        works.subject(all);
        Works.same(name + " is taken", works.it.match(1, 1, 1, 0), begins ? width : -1);
        Works.same(name + " is taken", works.it.match(1, 1, 2, 0), begins ? width : -1);
    }

    private static void rows() {
        Works.sentence("ALTERNATIVES: rows, with | between; a ROW: PARTS one behind the other (perhaps none)");
        Works.reads("", "0");
        Works.takes("", "");
        Works.takesNot("", "a");
        Works.reads("|", "0");
        Works.takes("|", "");
        Works.takes("a|", "");
        Works.takes("|a", "a");
        Works.takes("a||b", "");
        Works.takes("a||b", "b");
        Works.takesNot("a||b", "ab");
        Works.takes("()", "");
        Works.takes("(|)", "");
        Works.takes("(?:)", "");
        Works.takes("a(|b)c", "ac");
    }

    private static void plainCharacters() {
        Works.sentence("a character that is none of \\ ^ $ . | ? * + ( ) [ (also {, ..): itself");
        String special = "\\^$.|?*+()[";
        for (int code = 0; code < 128; code++) {
            String one = "" + (char) code;
            if (special.indexOf(code) < 0) {
                Works.reads(one, "0");
                Works.takes(one, one);
                Works.takesNot(one, code == 'x' ? "y" : "x");
            }
        }
        Works.takesNot("^", "^");
        Works.takesNot("$", "$");
        Works.takesNot("|", "|");
        Works.reads("\\", "fault 5 at 0");
        Works.reads("?", "fault 8 at 0");
        Works.reads("*", "fault 8 at 0");
        Works.reads("+", "fault 8 at 0");
        Works.reads("(", "fault 2 at 0");
        Works.reads(")", "fault 3 at 0");
        Works.reads("[", "fault 4 at 0");
    }

    private static void bracesThatAreCharacters() {
        Works.sentence("(also {, where no repeat can be read from it): itself");
        String[] texts = {"{", "{}", "{,}", "{,2}", "{a}", "{1", "{1,", "{1,2", "{-1}", "{ 1}", "{1 }", "{1,2,3}", "{1;2}",
            "{0x}", "{1,a}", "{12345678901}", "{999"};
        for (String text : texts) {
            Works.takes(text, text);
            Works.takes("a" + text, "a" + text);
            Works.takes("(?i)" + text, text);
            Works.takes("b|" + text, text);
        }
        Works.sentence("n and m of one to three digits (else the { is a character, and what follows is read as ever)");
        Works.takes("a{1000}", "a{1000}");
        Works.takes("a{0001}", "a{0001}");
        Works.takes("a{1000,}", "a{1000,}");
        Works.takes("a{1,1000}", "a{1,1000}");
        Works.takes("a{1000,1}", "a{1000,1}");
        Works.takes("a{1000}{2}", "a{1000}}");
        Works.takes("{*", "{{{");
        Works.takes("a{*", "a{{{");
        Works.takes("a{,2}+", "a{,2}}}");
        Works.takes("a{[b]", "a{b");
        Works.reads("a{1,(", "fault 2 at 4");
        Works.reads("a{1,[", "fault 4 at 4");
        Works.reads("a{,*", "0");
        Works.takes("a{1|b", "a{1");
    }

    private static void dots() {
        Works.sentence(". any character but 10 (with s on: any)");
        Works.same("without s", Works.taken(".", 0, 0, FAR), "0-9 11-" + FAR);
        Works.same("with s", Works.taken(".", 4, 0, FAR), "0-" + FAR);
        Works.same("the gap", Works.taken(".", 0, 55290, 57350), "55290-55295 57344-57350");
        Works.same("the last", Works.taken(".", 0, 1114000, 1114111), "1114000-1114111");
        Works.finds(".", bytes(0xFF, 0xC3, 10), "none");
        Works.finds("(?s).", bytes(0xFF, 0xC3, 10), "2-3");
    }

    private static void endsOfLines() {
        Works.sentence("^ the subject's beginning (with m on: or behind a byte 10)");
        Works.matches("^", 0, "\n\n", 0, 0, "0-0");
        Works.matches("^", 0, "\n\n", 0, 1, "none");
        Works.matches("^", 2, "\n\n", 0, 1, "1-1");
        Works.matches("^", 2, "\na\n", 1, 2, "none");
        Works.matches("^", 2, "\na\n", 1, 3, "3-3");
        Works.matches("^", 2, "\r\u000B\u0085", 0, 1, "none");
        Works.sentence("$ its end (m: or ahead of a byte 10)");
        Works.matches("$", 0, "\n\n", 0, 0, "2-2");
        Works.matches("$", 0, "\n\n", 1, 1, "none");
        Works.matches("$", 2, "\n\n", 0, 0, "0-0");
        Works.matches("$", 2, "a\n", 0, 0, "1-1");
        Works.matches("$", 2, "a\n", 0, 2, "2-2");
        Works.matches("$", 2, "a\r\u000B", 0, 0, "3-3");
        Works.matches("^$", 0, "", 2, 0, "0-0");
        Works.matches("^$", 2, "a\n\nb", 0, 0, "2-2");
        Works.matches("^$", 2, "a\nb", 0, 0, "none");
        Works.matches("(?m)^", 0, "a\n", 0, 1, "2-2");
        Works.matches("(?-m)^", 2, "a\n", 0, 1, "none");
        for (int item = 0; item < 256; item++) {
            Works works = new Works();
            works.compile(0, 2, "a$");
            works.compile(1, 2, "^a");
            works.compile(2, 0, "a$");
            works.compile(3, 0, "^a");
            works.subject(Works.raw("a" + (char) item + "a-"));
            boolean line = item == 10;
            for (int machine = 0; machine < 5; machine++) {
                Works.same("$ ahead of " + item + " by " + machine, works.it.match(0, 0, machine, 0), line ? 1 : -1);
                Works.same("^ behind " + item + " by " + machine, works.it.match(1, 0, machine, 1), line ? 3 : -1);
                Works.same("$ without m by " + machine, works.it.match(2, 0, machine, 0), -1);
                Works.same("^ without m by " + machine, works.it.match(3, 0, machine, 1), -1);
            }
            Works.same("which at " + item, works.it.which(15, false), line ? 11 : 10);
        }
    }

    private static void numbersOfGroups() {
        Works.sentence("( .. ) numbered from 1 on in the order of their (; (?P<name> .. ) likewise; (?flags: .. ) not numbered");
        Works.finds("((a)(?P<n>b))(?:c)(?i:d)(e)", "abcde", "0-5 0-2 0-1 1-2 4-5");
        Works.reads("(?:a)(?i:b)(?-i:c)(?i)", "0");
        Works.reads("(a)|(b)|(?P<n>c)", "3");
        Works.reads("(a){0}(b)", "2");
        Works.finds("(a){0}(b)", "b", "0-1 - 0-1");
    }

    private static void names() {
        Works.sentence("with a NAME of 1 to 12 of a .. z A .. Z 0 .. 9 _");
        Works.reads("(?P<>a)", "fault 10 at 0");
        Works.reads("(?P<a>a)", "1");
        Works.reads("(?P<abcdefghijkl>a)", "1");
        Works.reads("(?P<abcdefghijklm>a)", "fault 10 at 0");
        Works.reads("(?P<______________________________>a)", "fault 10 at 0");
        for (int item = 0; item < 256; item++) {
            boolean fits = item < 128 && (Character.isLetterOrDigit(item) || item == '_');
            Works.readsRaw("(?P<" + (char) item + ">a)", fits ? "1" : "fault 10 at 0");
            Works.readsRaw("(?P<n" + (char) item + "n>a)", fits ? "1" : item == '>' ? "1" : "fault 10 at 0");
        }
    }

    private static void flagsOfGroups() {
        Works.sentence("flags are none or some of i m s U, perhaps a -, some again");
        String[] fine = {"", "i", "m", "s", "U", "imsU", "Usmi", "-i", "-m", "-s", "-U", "-imsU", "i-m", "im-sU", "imsU-imsU"};
        for (String flags : fine) {
            Works.reads("(?" + flags + ")", "0");
            Works.reads("(?" + flags + ":a)", "0");
        }
        for (int item = 0; item < 256; item++) {
            boolean told = "imsU:".indexOf(item) >= 0;
            Works.readsRaw("(?" + (char) item + ")", told ? "0" : item == ')' ? "fault 3 at 3" : "fault 10 at 0");
        }
        Works.sentence("(at least one behind a -; one told twice counts once, one on both sides is off)");
        String[] wrong = {"-", "i-", "imsU-", "--i", "-i-m", "i--m", "-i-"};
        for (String flags : wrong) {
            Works.reads("(?" + flags + ")", "fault 10 at 0");
            Works.reads("(?" + flags + ":a)", "fault 10 at 0");
        }
        Works.reads("(?ii)", "0");
        Works.reads("(?-ii)", "0");
        Works.takes("(?ii)a", "A");
        Works.matchesWhole("(?-ii)a", 1, "A", false);
        Works.takesNot("(?i-i)a", "A");
        Works.matchesWhole("(?i-i)a", 1, "A", false);
        Works.matchesWhole("(?i-i:a)", 1, "A", false);
        Works.takes("(?si-s:a).", "Ab");
        Works.matchesWhole("(?im-i).", 4, "\n", true);
        Works.matchesWhole("(?)a.", 5, "A\n", true);
        Works.matchesWhole("(?:a.)", 5, "A\n", true);
        Works.matches("(?-U)(a*)", 8, "aa", 0, 0, "0-2 0-2");
        Works.matches("(?s-U).(a*)", 8, "\naa", 0, 0, "0-3 1-3");
        for (int before : new int[] {0, 15, 5, 10}) {
            for (int on = 0; on < 16; on++) {
                for (int off = 0; off < 16; off++) {
                    String told = letters(on) + (off == 0 ? "" : "-" + letters(off));
                    flagsAre("(?" + told + ")", "", before, (before | on) & ~off);
                    flagsAre("(?" + told + ":", ")", before, (before | on) & ~off);
                }
            }
        }
    }

    private static String letters(int flags) {
        StringBuilder all = new StringBuilder();
        for (int i = 0; i < 4; i++) {
            all.append((flags >> i & 1) == 1 ? "" + "imsU".charAt(i) : "");
        }
        return all.toString();
    }

    /** What is on between a beginning and an end of a pattern, by what i, m, s and U make of it. */
    private static void flagsAre(String begin, String end, int before, int due) {
        Works works = new Works();
        String[] probes = {"a", "^b", ".", "b*"};
        for (int slot = 0; slot < 4; slot++) {
            works.compile(slot, before, begin + probes[slot] + end);
        }
        works.subject("A\nbb");
        int got = works.it.match(0, 1, 0, 0) == 1 ? 1 : 0;
        got |= works.it.match(1, 1, 0, 2) == 3 ? 2 : 0;
        got |= works.it.match(2, 1, 0, 1) == 2 ? 4 : 0;
        got |= works.it.match(3, 1, 0, 2) == 2 ? 8 : 0;
        Works.same("flags " + before + " and " + begin, got, due);
    }

    private static void reachOfFlags() {
        Works.sentence("whose flags are on (behind a -: off) up to the end of the innermost group around it");
        Works.takes("(a(?i)b)c", "aBc");
        Works.takesNot("(a(?i)b)c", "aBC");
        Works.takesNot("(a(?i)b)c", "ABc");
        Works.takes("(?:(?:(?i)a)b)c", "Abc");
        Works.takesNot("(?:(?:(?i)a)b)c", "ABc");
        Works.takes("(?:(?i)(?:a)b)c", "ABc");
        Works.takesNot("(?:(?i)(?:a)b)c", "ABC");
        Works.takes("(?i:a(?-i)b)c(?i)d", "AbcD");
        Works.takesNot("(?i:a(?-i)b)c(?i)d", "ABcD");
        Works.takes("(?P<n>(?i)a)", "A");
        Works.takesNot("(?P<n>(?i)a)b", "AB");
        Works.takes("(?i:a)(?i:b)", "AB");
        Works.takesNot("(?i:a)b", "AB");
        Works.matchesWhole("(?-i:a)b", 1, "aB", true);
        Works.matchesWhole("(?-i:a)b", 1, "AB", false);
        Works.sentence("What (?flags) turns on holds behind a | too; outside of groups up to the pattern's end");
        Works.takes("(?i)a|b", "B");
        Works.takesNot("b|(?i)a", "B");
        Works.takes("x|(?i)a|b", "B");
        Works.takes("(?:x|(?i)a|b)", "B");
        Works.takesNot("(?:x|(?i)a|b)c", "BC");
        Works.takes("(?i)a(b|c)(?:d)", "ACD");
        Works.matchesWhole("(?-i)a|b", 1, "B", false);
    }

    private static void assertions() {
        Works.sentence("\\A the beginning, \\z the end");
        Works.matches("\\A", 2, "\n\n", 0, 0, "0-0");
        Works.matches("\\A", 2, "\n\n", 0, 1, "none");
        Works.matches("\\z", 2, "\n\n", 0, 0, "2-2");
        Works.matches("\\z", 2, "a\n", 1, 1, "none");
        Works.matches("\\A\\z", 0, "", 2, 0, "0-0");
        Works.sentence("\\b between a WORD byte (0 .. 9, A .. Z, a .. z, _) and a byte that is none, or an end");
        for (int item = 0; item < 256; item++) {
            boolean word = item < 128 && (Character.isLetterOrDigit(item) || item == '_');
            Works works = new Works();
            works.compile(0, 0, "\\b");
            works.compile(1, 0, "\\B");
            works.subject(Works.raw("-" + (char) item + "-"));
            Works.same("\\b around " + item, works.all(0), word ? "1-1 2-2" : "");
            Works.same("\\B around " + item, works.all(1), word ? "0-0 3-3" : "0-0 1-1 2-2 3-3");
            works.subject(Works.raw("a" + (char) item));
            Works.same("\\b behind a and " + item, works.all(0), word ? "0-0 2-2" : "0-0 1-1");
            works.subject(Works.raw("" + (char) item));
            for (int machine = 0; machine < 5; machine++) {
                Works.same("\\b ahead of " + item + " by " + machine, works.it.match(0, 1, machine, 0), word ? 0 : -1);
                Works.same("\\b behind " + item + " by " + machine, works.it.match(0, 1, machine, 1), word ? 1 : -1);
                Works.same("\\B ahead of " + item + " by " + machine, works.it.match(1, 1, machine, 0), word ? -1 : 0);
            }
            Works.same("which of \\b and \\B at " + item, works.it.which(3, false), word ? 1 : 2);
        }
        Works.finds("\\b", "", "none");
        Works.finds("\\b", "--", "none");
        Works.finds("\\b", bytes(0xC3, 0xA9), "none");
        Works.sentence("\\B where \\b is not");
        Works.finds("\\B", "", "0-0");
        Works.finds("\\B", "a", "none");
        Works.finds("\\B", "ab", "1-1");
        Works.finds("\\B", "-", "0-0");
        Works.finds("a\\B", bytes('a', 0xC3, 0xA9), "none");
    }

    private static void controls() {
        Works.sentence("\\a \\f \\n \\r \\t \\v are 7, 12, 10, 13, 9, 11");
        String letters = "afnrtv";
        int[] codes = {7, 12, 10, 13, 9, 11};
        for (int i = 0; i < codes.length; i++) {
            Works.same("\\" + letters.charAt(i), Works.taken("\\" + letters.charAt(i), 0, 0, 200), "" + codes[i]);
            Works.same("in a class", Works.taken("[\\" + letters.charAt(i) + "]", 0, 0, 200), "" + codes[i]);
        }
    }

    private static void hexadecimals() {
        Works.sentence("\\x with two hexadecimal digits (a .. f, A .. F)");
        Works.takes("\\x00", "\0");
        Works.takes("\\x7f\\x7F", "\u007F\u007F");
        Works.takes("\\xaA\\xfF", "\u00AA\u00FF");
        Works.takes("\\x099", "\t9");
        Works.takes("\\x41{2}", "AA");
        for (int item = 0; item < 256; item++) {
            boolean hex = item < 128 && Character.digit(item, 16) >= 0;
            Works.readsRaw("\\x4" + (char) item, hex ? "0" : "fault 5 at 0");
            Works.readsRaw("\\x" + (char) item + "4", hex ? "0" : "fault 5 at 0");
            Works.readsRaw("\\x{4" + (char) item + "}", hex ? "0" : item == '}' ? "0" : "fault 5 at 0");
        }
        Works.reads("\\x", "fault 5 at 0");
        Works.reads("\\x4", "fault 5 at 0");
        Works.sentence("or { one to six of them }: that character, of two bytes and more above 127 (FAULT 5 if it is none)");
        Works.reads("\\x{", "fault 5 at 0");
        Works.reads("\\x{}", "fault 5 at 0");
        Works.reads("\\x{4", "fault 5 at 0");
        Works.reads("\\x{ 4}", "fault 5 at 0");
        Works.takes("\\x{9}", "\t");
        Works.takes("\\x{000041}", "A");
        Works.reads("\\x{0000041}", "fault 5 at 0");
        Works.takes("\\x{10FFFF}", new String(Character.toChars(1114111)));
        Works.reads("\\x{110000}", "fault 5 at 0");
        Works.reads("\\x{FFFFFF}", "fault 5 at 0");
        Works.takes("\\x{D7FF}", "\uD7FF");
        Works.reads("\\x{D800}", "fault 5 at 0");
        Works.reads("\\x{DFFF}", "fault 5 at 0");
        Works.takes("\\x{E000}", "\uE000");
        Works.matches("\\x7F", 0, bytes(0x7F), 2, 0, "0-1");
        Works.matches("\\x80", 0, bytes(0xC2, 0x80), 2, 0, "0-2");
        Works.matches("\\x80", 0, bytes(0x80), 0, 0, "none");
        Works.matches("\\xff", 0, bytes(0xC3, 0xBF), 2, 0, "0-2");
        Works.matches("\\x{800}", 0, bytes(0xE0, 0xA0, 0x80), 2, 0, "0-3");
        Works.size("\\x{10FFFF}", 0, 1);
    }

    private static void kind(String escape, String ranges, String others) {
        Works.same(escape, Works.taken(escape, 0, 0, FAR), ranges);
        Works.same("[" + escape + "]", Works.taken("[" + escape + "]", 0, 0, FAR), ranges);
        String not = escape.startsWith("\\p") ? "\\P" + escape.substring(2) : escape.toUpperCase();
        Works.same(not, Works.taken(not, 0, 0, FAR), others);
        Works.same("[" + not + "]", Works.taken("[" + not + "]", 0, 0, FAR), others);
        Works.same("[^" + escape + "]", Works.taken("[^" + escape + "]", 0, 0, FAR), others);
        Works.same(escape + " far off", Works.taken(escape, 0, 55200, 57400), "");
        Works.same(not + " far off", Works.taken(not, 0, 55200, 57400), "55200-55295 57344-57400");
        Works.same(not + " at the last", Works.taken(not, 0, 1114100, 1114111), "1114100-1114111");
        Works.finds(not, bytes(0xFF, 0xC3), "none");
    }

    private static void kinds() {
        Works.sentence("\\d 0 .. 9, \\s 9, 10, 12, 13, 32, \\w WORD, \\D \\S \\W the characters that are not");
        kind("\\d", "48-57", "0-47 58-" + FAR);
        kind("\\s", "9-10 12-13 32", "0-8 11 14-31 33-" + FAR);
        kind("\\w", "48-57 65-90 95 97-122", "0-47 58-64 91-94 96 123-" + FAR);
        Works.sentence("\\pL \\pN \\pG \\pY: .. ; \\P likewise: those that are not");
        kind("\\pL", "65-90 97-122 170 181 186 192-214 216-246 248-687 880-1279",
            "0-64 91-96 123-169 171-180 182-185 187-191 215 247 688-879 1280-" + FAR);
        kind("\\pN", "48-57 178-179 185 188-190", "0-47 58-177 180-184 186-187 191-" + FAR);
        kind("\\pG", "880-1023", "0-879 1024-" + FAR);
        kind("\\pY", "1024-1279", "0-1023 1280-" + FAR);
    }

    private static void anyByte() {
        Works.sentence("\\C any one byte");
        for (int item = 0; item < 256; item++) {
            Works works = new Works();
            works.compile(0, 0, "\\C");
            works.subject(new byte[] {(byte) item});
            Works.same("\\C on " + item, works.it.match(0, 2, item % 5, 0), 1);
        }
        Works.finds("\\C", "", "none");
        Works.matches("\\C", 0, "a", 0, 1, "none");
        Works.matches("\\C", 0, bytes(0xC3, 0xA9), 0, 0, "0-1");
        Works.matches("\\C", 0, bytes(0xC3, 0xA9), 2, 0, "none");
        Works.matches("\\C{4}", 0, bytes(0xF0, 0x9F, 0x98, 0x80), 2, 0, "0-4");
    }

    private static void otherEscapes() {
        Works.sentence("\\ before another character below 128 that is no letter, digit or _: itself");
        for (int item = 0; item < 256; item++) {
            boolean word = item < 128 && (Character.isLetterOrDigit(item) || item == '_');
            if (!word) {
                Works.readsRaw("\\" + (char) item, item < 128 ? "0" : "fault 5 at 0");
                Works.readsRaw("[\\" + (char) item + "]", item < 128 ? "0" : "fault 5 at 1");
            }
            if (!word && item < 128) {
                Works.takes("\\" + (char) item, "" + (char) item);
                Works.takes("[\\" + (char) item + "]", "" + (char) item);
            }
        }
        String known = "AzbBafnrtvdswDSWC";
        for (int item = '0'; item <= 'z'; item++) {
            if ((Character.isLetterOrDigit(item) || item == '_') && "pPx".indexOf(item) < 0) {
                Works.reads("\\" + (char) item, known.indexOf(item) >= 0 ? "0" : "fault 5 at 0");
                boolean inClass = known.indexOf(item) >= 4 && item != 'C';
                Works.reads("[\\" + (char) item + "]", inClass ? "0" : "fault 5 at 1");
            }
        }
    }

    private static void set(String pattern, String due) {
        Works.same(pattern, Works.taken(pattern, 0, 0, FAR), due);
    }

    private static void classes() {
        Works.sentence("A CLASS: [ or [^ (those that are not), ITEMS, ]");
        set("[a]", "97");
        set("[ac]", "97 99");
        set("[^ac]", "0-96 98 100-" + FAR);
        set("[a^]", "94 97");
        set("[^^]", "0-93 95-" + FAR);
        set("[.*+?()|{}$^]", "36 40-43 46 63 94 123-125");
        set("[[]", "91");
        set("[a[]", "91 97");
        set("[^\\n]", "0-9 11-" + FAR);
        set("[^a]", "0-96 98-" + FAR);
        Works.takes("[a][b]", "ab");
        Works.takesNot("[a][b]", "aa");
        Works.takes("\\d[b]\\s[^c]", "1b d");
        Works.takesNot("\\d[b]", "11");
        Works.takesNot("[b]\\d", "bb");
        Works.size("[a][b]", 0, 12);
        Works.size("[a]\\d[^c]", 0, 26);
        Works.same("all but the last", Works.taken("[^\\x{10FFFF}]", 0, 1114100, 1114111), "1114100-1114110");
        Works.same("the last alone", Works.taken("[^\\x{0}-\\x{10FFFE}]", 0, 1114100, 1114111), "1114111");
        Works.same("the first alone", Works.taken("[^\\x{1}-\\x{10FFFF}]", 0, 0, 200), "0");
        Works.sentence("] as the first item is itself, behind [^ too");
        set("[]]", "93");
        set("[]a]", "93 97");
        set("[^]]", "0-92 94-" + FAR);
        set("[^]a]", "0-92 94-96 98-" + FAR);
        Works.takes("[a]]", "a]");
        Works.reads("[]", "fault 4 at 0");
        Works.reads("[^]", "fault 4 at 0");
        set("[]-a]", "93-97");
        set("[^]-a]", "0-92 98-" + FAR);
        set("[\\]a]", "93 97");
        set("[a\\]]", "93 97");
        Works.sentence("An item: a character (but \\ and ]), an escape that is one, ..; \\d \\s \\w \\p and their negations");
        set("[\\d\\pG]", "48-57 880-1023");
        set("[\\D]", "0-47 58-" + FAR);
        set("[^\\D]", "48-57");
        set("[\\w\\W]", "0-" + FAR);
        set("[^\\w\\W]", "");
        set("[\\x41\\x{e9}\\n\\.]", "10 46 65 233");
        set("[\u0000\u0001]", "0-1");
        set("[\u00E9\u20AC]", "233");
    }

    /** As many ranges as a pattern may have, and about as many as the machines can tell apart. */
    private static void manyRanges() {
        Works.sentence("of a class 2 and 4 for each range of it: SIZE above 400");
        StringBuilder odd = new StringBuilder();
        for (int code = 257; code < 257 + 2 * 100; code += 2) {
            odd.append((char) code);
        }
        Works.size("[" + odd.substring(0, 99) + "]", 0, 398);
        Works.reads("[" + odd + "]", "fault 14 at -1");
        for (int count : new int[] {99, 98, 60, 58, 57, 56, 55, 54, 53, 52, 51, 50, 49}) {
            String pattern = "[" + odd.substring(0, count) + "]";
            int last = 257 + 2 * (count - 1);
            Works.same("the first of " + count, Works.taken(pattern, 0, 250, 262), "257 259 261");
            Works.same("the last of " + count, Works.taken(pattern, 0, last - 5, last + 5), (last - 4) + " " + (last - 2) + " " + last);
            Works works = new Works();
            works.compile(0, 0, pattern);
            for (int code = last - 20; code < last + 20; code++) {
                works.subject("" + (char) code);
                boolean due = code % 2 == 1 && code <= last;
                Works.same(code + " of " + count, works.it.which(1, true), due ? 1 : 0);
                Works.same(code + " of " + count, works.it.which(1, false), due ? 1 : 0);
                Works.same(code + " of " + count, works.it.match(0, 0, 4, 0), due ? 2 : -1);
            }
        }
        StringBuilder plain = new StringBuilder();
        for (int code = 257; code < 257 + 2 * 60; code += 2) {
            plain.append((char) code);
        }
        Works.takes(plain.toString(), plain.toString());
        Works.takesNot(plain.toString(), plain.toString().replace((char) 375, (char) 374));
    }

    private static void ranges() {
        Works.sentence("or with - and another such one behind it .. a RANGE");
        set("[a-c]", "97-99");
        set("[a-a]", "97");
        set("[\\x61-\\x63]", "97-99");
        set("[\\n-\\r]", "10-13");
        set("[a-\\x63]", "97-99");
        set("[\\.-0]", "46-48");
        set("[a-ce-g]", "97-99 101-103");
        set("[a-cb-e]", "97-101");
        set("[a-cd-e]", "97-101");
        set("[\\x{0}-\\x{10FFFF}]", "0-" + FAR);
        set("[^\\x{0}-\\x{10FFFF}]", "");
        set("[\u00E9-\u00EB]", "233-235");
        Works.same("over the gap", Works.taken("[\\x{D7FE}-\\x{E001}]", 0, 55000, 58000), "55294-55295 57344-57345");
        Works.sentence("(a - behind which ] stands is itself, and one that no character stands ahead of to begin a range: in"
            + " [a-b-c], [\\d-z]; in [--a] it begins one)");
        set("[a-]", "45 97");
        set("[-]", "45");
        set("[-a]", "45 97");
        set("[^-a]", "0-44 46-96 98-" + FAR);
        set("[^a-]", "0-44 46-96 98-" + FAR);
        set("[a-b-c]", "45 97-99");
        set("[a-b-]", "45 97-98");
        set("[a-c-e]", "45 97-99 101");
        set("[\\d-z]", "45 48-57 122");
        set("[\\d-]", "45 48-57");
        set("[[:digit:]-z]", "45 48-57 122");
        set("[\\pG-z]", "45 122 880-1023");
        set("[--a]", "45-97");
        set("[--]", "45");
        set("[---]", "45");
        set("[+--]", "43-45");
        set("[a-b--/]", "45-47 97-98");
        set("[^--a]", "0-44 98-" + FAR);
        set("[\\--a]", "45-97");
        set("[+-\\-]", "43-45");
        set("[a\\-z]", "45 97 122");
        Works.takes("[a-]]", "a]");
        Works.takes("[a-]]", "-]");
        set("[A-[]", "65-91");
        set("[[-a]", "91-97");
        set("[--\\]]", "45-93");
    }

    private static void namedKinds() {
        Works.sentence("[:digit:] [:alpha:] [:upper:] [:lower:] [:punct:] [:space:], and [:^ likewise: ..; those that are not");
        named("digit", "48-57", "0-47 58-" + FAR);
        named("alpha", "65-90 97-122", "0-64 91-96 123-" + FAR);
        named("upper", "65-90", "0-64 91-" + FAR);
        named("lower", "97-122", "0-96 123-" + FAR);
        named("punct", "33-47 58-64 91-96 123-126", "0-32 48-57 65-90 97-122 127-" + FAR);
        named("space", "9-13 32", "0-8 14-31 33-" + FAR);
        set("[[:digit:][:space:]x]", "9-13 32 48-57 120");
        set("[x[:digit:]-]", "45 48-57 120");
        set("[:digit:]", "58 100 103 105 116");
        set("[:a]", "58 97");
        set("[[a:]", "58 91 97");
        Works.reads("[[:word:]]", "fault 7 at 1");
        Works.reads("[[:Digit:]]", "fault 7 at 1");
        Works.reads("[[:digit]]", "fault 7 at 1");
        Works.reads("[[:digit: ]]", "fault 7 at 1");
        Works.reads("[[:^^digit:]]", "fault 7 at 1");
        Works.reads("[[:digits:]]", "fault 7 at 1");
        Works.reads("[[:]]", "fault 7 at 1");
        Works.reads("[[::]]", "fault 7 at 1");
        Works.reads("[[:^:]]", "fault 7 at 1");
        Works.reads("[[:", "fault 7 at 1");
        Works.reads("[[:digit:", "fault 7 at 1");
        Works.reads("[[:digit:]", "fault 4 at 0");
    }

    private static void named(String name, String ranges, String others) {
        set("[[:" + name + ":]]", ranges);
        set("[^[:" + name + ":]]", others);
        set("[[:^" + name + ":]]", others);
        set("[^[:^" + name + ":]]", ranges);
        Works.same(name + " far off", Works.taken("[[:^" + name + ":]]", 0, 1114100, 1114111), "1114100-1114111");
    }

    /** Pairs that the document tells; what is alike to any of these is alike, too. */
    private static int[] rootsOfAlike() {
        int[] roots = new int[9000];
        for (int i = 0; i < roots.length; i++) {
            roots[i] = i;
        }
        for (int code = 'a'; code <= 'z'; code++) {
            join(roots, code, code - 'a' + 'A');
        }
        for (int code = 224; code <= 254; code++) {
            if (code != 247) {
                join(roots, code, code - 32);
            }
        }
        for (int code = 945; code <= 969; code++) {
            join(roots, code, code - 32);
        }
        for (int code = 1072; code <= 1103; code++) {
            join(roots, code, code - 32);
        }
        for (int code = 1104; code <= 1119; code++) {
            join(roots, code, code - 80);
        }
        int[] pairs = {962, 963, 962, 931, 107, 8490, 115, 383, 229, 8491, 181, 956};
        for (int i = 0; i < pairs.length; i += 2) {
            join(roots, pairs[i], pairs[i + 1]);
        }
        return roots;
    }

    private static void join(int[] roots, int one, int two) {
        int from = roots[one];
        int to = roots[two];
        for (int i = 0; i < roots.length; i++) {
            roots[i] = roots[i] == from ? to : roots[i];
        }
    }

    private static String alikeTo(int[] roots, int low, int high) {
        boolean[] has = new boolean[roots.length + 1];
        for (int code = low; code <= high; code++) {
            for (int other = 0; other < roots.length; other++) {
                has[other] |= roots[other] == roots[code];
            }
        }
        StringBuilder ranges = new StringBuilder();
        int begin = -1;
        for (int code = 0; code < has.length; code++) {
            if (has[code] && begin < 0) {
                begin = code;
            } else if (!has[code] && begin >= 0) {
                ranges.append(' ').append(begin == code - 1 ? "" + begin : begin + "-" + (code - 1));
                begin = -1;
            }
        }
        return ranges.toString().trim();
    }

    private static void alike() {
        Works.sentence("With i on, characters .. have all that are ALIKE besides: ..");
        int[] roots = rootsOfAlike();
        int[] all = {962, 930, 963, 931, 964, 932, 107, 75, 8490, 115, 83, 383, 229, 197, 8491, 181, 956, 924, 97, 65, 122, 90, 96,
            64, 123, 91, 224, 192, 223, 191, 246, 214, 247, 215, 248, 216, 254, 222, 255, 223, 945, 913, 944, 912, 969, 937, 970, 938,
            1072, 1040, 1071, 1039, 1103, 1104, 1024, 1119, 1120, 1023, 8489, 8492, 382, 384, 48, 95, 10, 955, 957, 180, 182};
        for (int code : all) {
            String text = "\\x{" + Integer.toHexString(code) + "}";
            String due = alikeTo(roots, code, code);
            Works.same("alike to " + code, Works.taken(text, 1, 0, 8999), due);
            Works.same("alone without i: " + code, Works.taken(text, 0, 0, 8999), "" + code);
        }
        for (int code = 128; code < 8999; code += code < 1300 ? 1 : 7) {
            Works works = new Works();
            works.compile(0, 1, new String(Character.toChars(code)));
            int ranges = alikeTo(roots, code, code).split(" ").length;
            boolean alone = alikeTo(roots, code, code).equals("" + code);
            Works.same("the size of " + code + " with i", works.it.about(0, 1), alone ? 1 : 2 + 4 * ranges);
        }
        Works.sentence("(and what is alike to any of these; characters by \\x and all of a range, too)");
        int[][] spans = {{0, 8999 - 1}, {97, 97}, {65, 122}, {91, 96}, {100, 110}, {110, 120}, {180, 182}, {190, 200}, {214, 216},
            {223, 248}, {246, 255}, {382, 384}, {900, 930}, {930, 930}, {931, 944}, {945, 962}, {961, 964}, {955, 957},
            {937, 945}, {969, 1024}, {1023, 1040}, {1039, 1072}, {1071, 1104}, {1103, 1120}, {1119, 1200}, {8490, 8491}, {8489, 8489},
            {8492, 8500}};
        for (int[] span : spans) {
            String text = "[\\x{" + Integer.toHexString(span[0]) + "}-\\x{" + Integer.toHexString(span[1]) + "}]";
            Works.same("alike to " + text, Works.taken(text, 1, 0, 8999), alikeTo(roots, span[0], span[1]));
        }
    }

    private static void alikeInClasses() {
        Works.sentence("in a class (ahead of [^) characters and ranges, not other items");
        Works.same("a character", Works.taken("[k]", 1, 0, 8999), "75 107 8490");
        Works.same("not it", Works.taken("[^k]", 1, 0, 200), "0-74 76-106 108-200");
        Works.same("not it", Works.taken("[^k]", 1, 8480, 8500), "8480-8489 8491-8500");
        Works.same("a range", Works.taken("[j-l]", 1, 0, 8999), "74-76 106-108 8490");
        Works.same("upper", Works.taken("[[:upper:]]", 1, 0, 8999), "65-90");
        Works.same("lower", Works.taken("[[:lower:]]", 1, 0, 8999), "97-122");
        Works.same("\\w", Works.taken("[\\w]", 1, 0, 8999), "48-57 65-90 95 97-122");
        Works.same("\\w", Works.taken("\\w", 1, 0, 8999), "48-57 65-90 95 97-122");
        Works.same("\\W", Works.taken("\\W", 1, 8490, 8490), "8490");
        Works.same("\\pG", Works.taken("\\pG", 1, 0, 8999), "880-1023");
        Works.same("[\\pG]", Works.taken("[\\pG]", 1, 0, 8999), "880-1023");
        Works.same("both", Works.taken("[[:upper:]k]", 1, 0, 8999), "65-90 107 8490");
        Works.same("without i", Works.taken("[k]", 0, 0, 8999), "107");
        Works.same("by an escape", Works.taken("[\\x6b]", 1, 0, 8999), "75 107 8490");
    }

    private static void repeats() {
        Works.sentence("REPEATS: * + ? {n} {n,} {n,m}");
        String[] repeats = {"*", "+", "?", "{0}", "{1}", "{2}", "{0,}", "{1,}", "{2,}", "{0,0}", "{0,1}", "{0,2}", "{1,1}", "{1,2}",
            "{2,2}", "{2,3}", "{00}", "{002}", "{02,003}"};
        int[][] bounds = {{0, 9}, {1, 9}, {0, 1}, {0, 0}, {1, 1}, {2, 2}, {0, 9}, {1, 9}, {2, 9}, {0, 0}, {0, 1}, {0, 2}, {1, 1}, {1, 2},
            {2, 2}, {2, 3}, {0, 0}, {2, 2}, {2, 3}};
        for (int i = 0; i < repeats.length; i++) {
            for (int times = 0; times < 6; times++) {
                boolean due = times >= bounds[i][0] && times <= bounds[i][1];
                Works.matchesWhole("a" + repeats[i], 0, "a".repeat(times), due);
                Works.matchesWhole("(?:ab)" + repeats[i] + "?", 0, "ab".repeat(times), due);
            }
        }
        Works.takes("a{100}", "a".repeat(100));
        Works.takesNot("a{100}", "a".repeat(99));
        Works.takesNot("a{100}", "a".repeat(101));
        Works.takes("a{99,100}", "a".repeat(99));
        Works.takesNot("a{99,100}", "a".repeat(98));
        Works.takesNot("a{99,100}", "a".repeat(101));
        Works.takes("a{100,}", "a".repeat(2000));
        Works.takesNot("a{100,}", "a".repeat(99));
        Works.sentence("behind any part (also ^, $, \\b, a group that takes nothing)");
        String[] nothing = {"^", "$", "\\b", "\\B", "\\A", "\\z", "()", "(?:)", "(|)", "(?i:)", "(?P<n>)"};
        for (String part : nothing) {
            for (String repeat : new String[] {"*", "?", "{0}", "{0,}", "{0,5}", "*?", "??", "{0,}?"}) {
                Works.takes(part + repeat + "a", "a");
                Works.takes("a" + part + repeat + "b", "ab");
            }
        }
        Works.takes("^+^{2}^{1,3}a$+${100}$?", "a");
        Works.takesNot("a^+b", "ab");
        Works.takesNot("a(?:$){2,}b", "ab");
        Works.takes("\\b+a\\b{3}", "a");
        Works.takesNot("\\B+a", "a");
        Works.takes("()+(?:){100}(?:){3,}", "");
        Works.takes("[ab]{2}\\d{2}.{2}\\C{2}(c){2}", "ab12xyz-cc");
    }

    private static void laziness() {
        Works.sentence("each with a ? behind it or not: LAZY with one of that and U on, else GREEDY");
        String[] repeats = {"*", "+", "?", "{1}", "{1,}", "{1,2}"};
        String[] most = {"0-3 0-3", "0-3 0-3", "0-1 0-1", "0-1 0-1", "0-3 0-3", "0-2 0-2"};
        String[] least = {"0-0 0-0", "0-1 0-1", "0-0 0-0", "0-1 0-1", "0-1 0-1", "0-1 0-1"};
        for (int i = 0; i < repeats.length; i++) {
            Works.matches("(a" + repeats[i] + ")", 0, "aaa", 0, 0, most[i]);
            Works.matches("(a" + repeats[i] + "?)", 0, "aaa", 0, 0, least[i]);
            Works.matches("(a" + repeats[i] + ")", 8, "aaa", 0, 0, least[i]);
            Works.matches("(a" + repeats[i] + "?)", 8, "aaa", 0, 0, most[i]);
        }
        Works.finds("(?U:a)*", "aaa", "0-3");
        Works.finds("(?:(?U)a)*", "aaa", "0-3");
        Works.finds("(?U:a*)a*", "aaa", "0-3");
        Works.finds("(?U)(a*)(?-U)(a*)", "aaa", "0-3 0-0 0-3");
        Works.reads("a???", "fault 8 at 3");
        Works.reads("a{2}?", "0");
        Works.reads("a{2}??", "fault 8 at 5");
    }
}
