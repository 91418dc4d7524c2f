/** The edges of WAY, MATCH and ALL MATCHES: a check of its own for each sentence, by every machine. */
public final class EdgesOfMatchesTest {
    private static final int SEARCH = 0;
    private static final int AT = 1;
    private static final int WHOLE = 2;
    private static final int LONGEST = 16;

    public static void main(String[] args) {
        characters();
        assertions();
        rowsAndAlternatives();
        counts();
        stars();
        spans();
        search();
        at();
        whole();
        longest();
        allMatches();
        slotsUsedAgain();
        fullSubjects();
        Works.finish("EdgesOfMatchesTest");
    }

    private static void characters() {
        Works.sentence("a character or class that takes the character that is there (none at an ODD byte, nor at one within a"
            + " character; \\C: any byte)");
        Works.finds("a", "", "none");
        Works.finds("a", "b", "none");
        Works.finds("[^a]", "", "none");
        Works.finds("[^a]", "\u00FF\u00A9\u00C3", "none");
        Works.finds("[^a]", "\u00FF\u00C3\u00A9\u00A9", "1-3");
        Works.matches("[^a]", 0, "\u00C3\u00A9", AT, 1, "none");
        Works.matches("[^a]", 0, "\u00E2\u0082\u00ACx", AT, 1, "none");
        Works.matches("[^a]", 0, "\u00E2\u0082\u00ACx", SEARCH, 1, "3-4");
        Works.matches("[^a]", 0, "\u00E2\u0082\u00ACx", SEARCH, 2, "3-4");
        Works.matches("(?s).", 0, "\u00F0\u009F\u0098\u0080", AT, 3, "none");
        Works.matches("\\C", 0, "\u00F0\u009F\u0098\u0080", AT, 3, "3-4");
        Works.matches("\\C.", 0, "\u00C3\u00A9\u00C3\u00A9", SEARCH, 0, "1-4");
        Works.matches("\\C(?s:.)", 0, "\u00F0\u009F\u0098\u0080a", SEARCH, 0, "3-5");
        Works.matches("[^\\x00-\\x{10FFFF}]", 0, "a\u00FF", SEARCH, 0, "none");
        Works.matches("\u00E9", 0, "\u00C3", SEARCH, 0, "none");
        Works.matches("\u20AC", 0, "\u00E2\u0082", SEARCH, 0, "none");
        Works.matches("\u00E9\u00E9", 0, "\u00C3\u00A9\u00C3\u00A9", WHOLE, 0, "0-4");
        Works.matches(".*", 0, "ab\u00FFc", SEARCH, 0, "0-2");
        Works.matches("\\C*", 0, "ab\u00FFc", SEARCH, 0, "0-4");
    }

    private static void assertions() {
        Works.sentence("an assertion that is so there takes nothing");
        Works.matches("^^^", 0, "a", AT, 0, "0-0");
        Works.matches("a$$\\z", 0, "a", WHOLE, 0, "0-1");
        Works.matches("\\ba\\b", 0, "a", WHOLE, 0, "0-1");
        Works.matches("\\B", 0, "ab", AT, 1, "1-1");
        Works.matches("a^b", 0, "ab", SEARCH, 0, "none");
        Works.matches("a\\Bb", 0, "ab", SEARCH, 0, "0-2");
        Works.matches("(^)(a)($)", 0, "a", SEARCH, 0, "0-1 0-0 0-1 1-1");
        Works.matches("\\z\\C", 0, "a", SEARCH, 0, "none");
    }

    private static void rowsAndAlternatives() {
        Works.sentence("a row: its parts one behind the other, first by the first part's order, then the second's, ..");
        Works.finds("(a|ab)(c|bcd|)", "abcd", "0-4 0-1 1-4");
        Works.finds("(a|ab)(c|bcx|)", "abcd", "0-1 0-1 1-1");
        Works.finds("(a*?)(a*)", "aaa", "0-3 0-0 0-3");
        Works.finds("(a?)(a?)(a)", "aa", "0-2 0-1 1-1 1-2");
        Works.finds("(a??)(a??)(a?)", "aa", "0-1 0-0 0-0 0-1");
        Works.sentence("alternatives: those of the first row, then of the second, ..");
        Works.finds("a|ab", "ab", "0-1");
        Works.finds("ab|a", "ab", "0-2");
        Works.finds("|a", "a", "0-0");
        Works.finds("(|a)b", "ab", "0-2 0-1");
        Works.finds("(a)|(a)", "a", "0-1 0-1 -");
        Works.finds("x|(b)|(a)|(ab)", "ab", "0-1 - 0-1 -");
        for (int how = 0; how < 3; how++) {
            Works.matches("(\\C)|(a)", 0, "a", how, 0, "0-1 0-1 -");
            Works.matches("(a)|(\\C)", 0, "a", how, 0, "0-1 0-1 -");
            Works.matches("(?:x|(\\C))|(a)", 0, "a", how, 0, "0-1 0-1 -");
            Works.matches("([a-c])|([b-d])", 0, "b", how, 0, "0-1 0-1 -");
            Works.matches("([b-d])|([a-c])", 0, "c", how, 0, "0-1 0-1 -");
            Works.matches("([ae])|([b-f])", 0, "e", how, 0, "0-1 0-1 -");
            Works.matches("([a-f])|(c)", 0, "c", how, 0, "0-1 0-1 -");
            Works.matches("(c)|([^a])", 0, "c", how, 0, "0-1 0-1 -");
            Works.matches("x(?:(a)|(a))", 0, "xa", how, 0, "0-2 1-2 -");
            Works.matches("(?:(a)|(b))c", 0, "bc", how, 0, "0-2 - 0-1");
        }
    }

    private static void counts() {
        Works.sentence("x+ as xx*, x{n,} as n times x and x*");
        Works.finds("(a?)+", "", "0-0 0-0");
        Works.finds("(a?){2,}", "a", "0-1 1-1");
        Works.finds("(a|)+", "a", "0-1 0-1");
        Works.finds("(|a)+", "a", "0-1 0-1");
        Works.finds("(|a){2,}", "aa", "0-2 1-2");
        Works.finds("(|a){3}", "aaa", "0-0 0-0");
        Works.finds("(?:(a)|b){2,}", "ab", "0-2 0-1");
        Works.finds("(a){0,}", "", "0-0 -");
        Works.sentence("x{n,m} as n times x and (x(x( .. )?)?)? with m - n of them");
        Works.finds("(a?){0,2}", "", "0-0 0-0");
        Works.finds("(a?){0,3}", "a", "0-1 1-1");
        Works.finds("(a){2,4}", "aaaaa", "0-4 3-4");
        Works.finds("(a){2,4}?", "aaaaa", "0-2 1-2");
        Works.finds("(a){2,4}", "a", "none");
        Works.finds("(a|){0,2}", "a", "0-1 1-1");
        Works.finds("(|a){0,2}", "a", "0-0 0-0");
        Works.finds("(?:(a)|(b)){1,2}", "ba", "0-2 1-2 0-1");
        Works.finds("(a){0}", "a", "0-0 -");
        Works.finds("(a){0,0}b?", "a", "0-0 -");
        Works.matches("(a{1,2}){2}", 0, "aaa", WHOLE, 0, "0-3 2-3");
        Works.sentence("x? x, or nothing (LAZY: nothing, or x)");
        Works.finds("(a)?", "a", "0-1 0-1");
        Works.finds("(a)??", "a", "0-0 -");
        Works.finds("(a)?", "b", "0-0 -");
        Works.finds("()?", "", "0-0 0-0");
        Works.finds("()??", "", "0-0 -");
        Works.matches("(a)??", 0, "a", WHOLE, 0, "0-1 0-1");
    }

    private static void stars() {
        Works.sentence("x*: x and then x* again, or nothing (LAZY the other way round), but no x that takes nothing");
        Works.finds("()*", "", "0-0 -");
        Works.finds("()*?", "", "0-0 -");
        Works.finds("(a*)*", "", "0-0 -");
        Works.finds("(a*)*", "aa", "0-2 0-2");
        Works.finds("(a*?)*", "aa", "0-2 1-2");
        Works.finds("(a|)*", "aa", "0-2 1-2");
        Works.finds("(|a)*", "aa", "0-2 1-2");
        Works.finds("(|a)*?b", "aab", "0-3 1-2");
        Works.finds("(^)*a", "a", "0-1 -");
        Works.finds("(\\b|a)*", "a", "0-1 0-1");
        Works.finds("(a)*", "", "0-0 -");
        Works.finds("(a)*?", "a", "0-0 -");
        Works.matches("(a)*?", 0, "aa", WHOLE, 0, "0-2 1-2");
        Works.finds("((a*)*)*", "aab", "0-2 0-2 0-2");
        Works.finds("(?:(a*)(b*))*", "abab", "0-4 2-3 3-4");
        Works.finds("(?:(a*)|(b*))*", "ab", "0-2 0-1 1-2");
        Works.finds("(?:()|a)*", "aa", "0-2 -");
        Works.matches("(?:(?:\n|^)a??)*", 2, "\na", SEARCH, 0, "0-2");
        Works.matches("(?:(?:a|$)\n??)*", 2, "a\n", SEARCH, 0, "0-2");
        Works.matches("(?:(?:a|\\b) ??)*", 0, "a ", SEARCH, 0, "0-2");
        Works.matches("(?:(?:a|\\B)b??)*", 0, "ab", SEARCH, 0, "0-2");
        Works.matches("(?:(?:a|)b??)*", 0, "ab", SEARCH, 0, "0-2");
        Works.matches("(?:(?:a|())b??)*", 0, "ab", SEARCH, 0, "0-2 1-1");
        Works.matches("(?:(?:a|c*)b??)*", 0, "ab", SEARCH, 0, "0-2");
    }

    private static void spans() {
        Works.sentence("A group's SPAN is that of the last time that the way goes through it (none if it doesn't)");
        Works.finds("(?:(a)|(b)|(c))*", "abca", "0-4 3-4 1-2 2-3");
        Works.finds("(?:(a)|b)*", "ab", "0-2 0-1");
        Works.finds("((a)|b)*", "ab", "0-2 1-2 0-1");
        Works.finds("(a)|(b)", "b", "0-1 - 0-1");
        Works.finds("((a)?b)*", "abb", "0-3 2-3 0-1");
        Works.finds("(a)?(b)?(c)?", "", "0-0 - - -");
        Works.finds("()()()()()()()()()", "", "0-0 0-0 0-0 0-0 0-0 0-0 0-0 0-0 0-0 0-0");
        Works.finds("(a)(b)(c)(d)(e)(f)(g)(h)(i)", "abcdefghi", "0-9 0-1 1-2 2-3 3-4 4-5 5-6 6-7 7-8 8-9");
        Works.finds("(((((((((a)))))))))", "xa", "1-2 1-2 1-2 1-2 1-2 1-2 1-2 1-2 1-2 1-2");
        String deep = "(?:".repeat(21) + "(".repeat(9);
        Works.finds(deep + "a" + ")".repeat(30), "xa", "1-2 1-2 1-2 1-2 1-2 1-2 1-2 1-2 1-2 1-2");
        Works.finds("(".repeat(9) + "(?:".repeat(21) + "a|b" + ")".repeat(30), "xb", "1-2 1-2 1-2 1-2 1-2 1-2 1-2 1-2 1-2 1-2");
        Works.finds("(?:".repeat(29) + "(a)" + "*)".repeat(29), "aab", "0-2 1-2");
        Works.finds("(?:".repeat(29) + "(a)" + "?)".repeat(29), "aab", "0-1 0-1");
    }

    private static void search() {
        Works.sentence("SEARCH: from the first place from there on from which there is a way (a place within a character, too)");
        Works.matches("a", 0, "aba", SEARCH, 0, "0-1");
        Works.matches("a", 0, "aba", SEARCH, 1, "2-3");
        Works.matches("a", 0, "aba", SEARCH, 2, "2-3");
        Works.matches("a", 0, "aba", SEARCH, 3, "none");
        Works.matches("", 0, "aba", SEARCH, 3, "3-3");
        Works.matches("", 0, "\u00C3\u00A9", SEARCH, 1, "1-1");
        Works.matches("", 0, "\u00F0\u009F\u0098\u0080", SEARCH, 2, "2-2");
        Works.matches("\\C", 0, "\u00C3\u00A9", SEARCH, 1, "1-2");
        Works.matches("$", 0, "\u00C3\u00A9", SEARCH, 0, "2-2");
        Works.matches("\\B\\C$", 0, "\u00C3\u00A9", SEARCH, 0, "1-2");
        Works.matches("(?:\u00E9|\u00E9|\u00E9|\u00E9|\u00E9)x|\\C\\b", 0, "\u00C3\u00A9a", SEARCH, 0, "1-2");
        Works.matches("(?:\u20AC|[\u20AC]|.|\\W)x|\\Ca", 0, "\u00E2\u0082\u00ACa", SEARCH, 0, "2-4");
        Works.matches("abc|b", 0, "xabc", SEARCH, 0, "1-4");
        Works.matches("b|abc", 0, "xabc", SEARCH, 0, "1-4");
        Works.matches("^a", 0, "aa", SEARCH, 1, "none");
        Works.matches("\\ba", 0, "aa", SEARCH, 1, "none");
        Works.matches("a", 0, "", SEARCH, 0, "none");
        Works.matches("a*", 0, "baa", SEARCH, 0, "0-0");
    }

    private static void at() {
        Works.sentence("AT: from that place");
        Works.matches("a", 0, "ba", AT, 0, "none");
        Works.matches("a", 0, "ba", AT, 1, "1-2");
        Works.matches("a", 0, "ba", AT, 2, "none");
        Works.matches("a*", 0, "baac", AT, 1, "1-3");
        Works.matches("a*", 0, "ba", AT, 2, "2-2");
        Works.matches("", 0, "", AT, 0, "0-0");
        Works.matches("^", 0, "ab", AT, 1, "none");
        Works.matches("(?:)|a", 0, "a", AT, 0, "0-0");
    }

    private static void whole() {
        Works.sentence("WHOLE: from that place, ways that end at the subject's end alone");
        Works.matches("a|ab", 0, "ab", WHOLE, 0, "0-2");
        Works.matches("a|ab", 0, "abc", WHOLE, 0, "none");
        Works.matches("b|ab", 0, "ab", WHOLE, 1, "1-2");
        Works.matches("b", 0, "ab", WHOLE, 0, "none");
        Works.matches("", 0, "ab", WHOLE, 0, "none");
        Works.matches("", 0, "ab", WHOLE, 2, "2-2");
        Works.matches("", 0, "", WHOLE, 0, "0-0");
        Works.matches("a*?", 0, "aaa", WHOLE, 0, "0-3");
        Works.matches("(a|aa)(a|aa)", 0, "aaa", WHOLE, 0, "0-3 0-1 1-3");
        Works.matches("(a|aa)(a|aa)", LONGEST, "aaa", WHOLE, 0, "0-3 0-1 1-3");
        Works.matches("(aa|a)(aa|a)", LONGEST, "aaa", WHOLE, 0, "0-3 0-2 2-3");
        Works.matches("a$", 2, "a\n", WHOLE, 0, "none");
    }

    private static void longest() {
        Works.sentence("It is the first way in order; with LONGEST the first of those from that place that end last");
        Works.matches("a|ab|abc", 0, "abcd", SEARCH, 0, "0-1");
        Works.matches("a|ab|abc", LONGEST, "abcd", SEARCH, 0, "0-3");
        Works.matches("a|ab|abc", LONGEST, "xabcd", AT, 1, "1-4");
        Works.matches("a*?", 0, "aaa", SEARCH, 0, "0-0");
        Works.matches("a*?", LONGEST, "aaa", SEARCH, 0, "0-3");
        Works.matches("(a|ab)(c|bcd)?", LONGEST, "abcd", AT, 0, "0-4 0-1 1-4");
        Works.matches("(a*?)(a*)", LONGEST, "aa", SEARCH, 0, "0-2 0-0 0-2");
        Works.matches("(a*)(a*)", LONGEST, "aa", SEARCH, 0, "0-2 0-2 2-2");
        Works.matches("(ab)|(a)(b)", LONGEST, "ab", SEARCH, 0, "0-2 0-2 - -");
        Works.matches("(a)(b)|(ab)", LONGEST, "ab", SEARCH, 0, "0-2 0-1 1-2 -");
        Works.matches("a|bcd", LONGEST, "abcd", SEARCH, 0, "0-1");
        Works.matches("|a", LONGEST, "ba", SEARCH, 0, "0-0");
        Works.matches("|a", LONGEST, "a", SEARCH, 0, "0-1");
        Works.matches("b", LONGEST, "a", SEARCH, 0, "none");
        Works.matches("(|a)*", LONGEST, "aa", SEARCH, 0, "0-2 1-2");
        Works.matches("(a|b??)+", LONGEST, "ab", SEARCH, 0, "0-2 1-2");
    }

    private static void all(String pattern, int flags, String subject, String due) {
        Works works = new Works();
        works.compile(3, flags, pattern);
        works.subject(Works.raw(subject));
        Works.same(pattern + " with " + flags + " on " + subject, works.all(3), due);
        Works.same("how many", works.it.all(3), due.isEmpty() ? 0 : due.split(" ").length);
    }

    private static void allMatches() {
        Works.sentence("ALL MATCHES: SEARCH from 0 on, then from where the match before ended");
        all("aa", 0, "aaaaa", "0-2 2-4");
        all("a", 0, "", "");
        all("a", 0, "b", "");
        all("a", 0, "a", "0-1");
        all("a+", 0, "aabaa", "0-2 3-5");
        all("^a", 0, "aaa", "0-1");
        all("\\Ba", 0, "aaa", "1-2 2-3");
        all("a|ab", LONGEST, "aba", "0-2 2-3");
        all("(?m)^.*$", 0, "a\n\nb", "0-1 2-2 3-4");
        all("\\C", 0, "\u00C3\u00A9", "0-1 1-2");
        Works.sentence("but where that takes nothing and begins where the one before ended, it is none, and it goes on from one byte"
            + " further (perhaps within a character; so to the end)");
        all("", 0, "", "0-0");
        all("", 0, "a", "0-0 1-1");
        all("", 0, "\u00C3\u00A9", "0-0 1-1 2-2");
        all("", 0, "\u00FF\u00FF", "0-0 1-1 2-2");
        all("a*", 0, "a", "0-1");
        all("a*", 0, "ab", "0-1 2-2");
        all("a*", 0, "baab", "0-0 1-3 4-4");
        all("a*?", 0, "aa", "0-0 1-1 2-2");
        all("a??", LONGEST, "aa", "0-1 1-2");
        all("$", 0, "ab", "2-2");
        all("a|$", 0, "a", "0-1");
        all("^", 0, "ab", "0-0");
        all("\\b", 0, "a b", "0-0 1-1 2-2 3-3");
        all("a|\\b", 0, "ab", "0-1 2-2");
        all("b|", 0, "abb", "0-0 1-2 2-3");
        all("\u00E9|", 0, "\u00C3\u00A9a", "0-2 3-3");
        all(".|", 0, "\u00FFa", "0-0 1-2");
        all("a|(?:|b)", 0, "ab", "0-1 2-2");
        all("a|b??", 0, "ab", "0-1 2-2");
        all("a|b??", LONGEST, "ab", "0-1 1-2");
        all("ab??|c??", 0, "abc", "0-1 2-2 3-3");
        all("(?:a|b??)*?", 0, "ab", "0-0 1-1 2-2");
        all("a|\\B|b", 0, "aab", "0-1 1-2");
        all("a|\\B|b", 0, "abb", "0-1 2-2");
        Works.sentence("|a on a has two, of nothing, at 0 and 1");
        all("|a", 0, "a", "0-0 1-1");
        all("|a", LONGEST, "a", "0-1");
    }

    /** Whatever pattern and subject were there before, the match is that of those that are there now. */
    private static void slotsUsedAgain() {
        Works.sentence("A MATCH of a slot's pattern in the subject: whatever was there before");
        String[] patterns = {"a(b)c", "(a|ab)(c|bcd)?", "[a-c]*?$", "(?:a|b)*", "x[^y]z|abc", "\\babc\\b", "(?m)^c", "\u00E9|.\\C", "", "(a*)*b"};
        String[] subjects = {"abcd", "abc", "", "\n\u00E9", "ab\ncd", "a", "xaz", "bbbbbbbbbbbbbbbbbbbbbbbbbbbbbbbbbbbbbbbb", "\u20AC"};
        for (String first : patterns) {
            for (String second : patterns) {
                Works works = new Works();
                works.compile(0, 0, first);
                works.subject(subjects[Math.abs(first.hashCode() % subjects.length)]);
                everything(works);
                works.compile(0, 0, second);
                String subject = subjects[Math.abs((first + second).hashCode() % subjects.length)];
                works.subject(subject);
                Works fresh = new Works();
                fresh.compile(0, 0, second);
                fresh.subject(subject);
                Works.same(second + " behind " + first + " on " + subject, everything(works), everything(fresh));
            }
        }
        Works works = new Works();
        for (int i = 0; i < 40; i++) {
            works.compile(0, 0, "a{" + (60 + i) + "}[bc]{3}(?:)");
        }
        works.subject("a".repeat(99) + "bcb");
        for (int machine = 0; machine < 5; machine++) {
            Works.same("the fortieth pattern of a slot", works.it.match(0, 2, machine, 0), 102);
        }
        Works minds = new Works();
        minds.compile(0, 0, "abcdefgh");
        minds.subject("xa");
        minds.it.match(0, 1, 3, 0);
        for (String pattern : new String[] {"x(?:(a)|([a-c]))", "(?:x(a)|x(a))", "xa", "x(?:(a)|(a))", "(x)(?:(a)|(\\C))"}) {
            minds.compile(0, 0, pattern);
            Works fresh = new Works();
            fresh.compile(0, 0, pattern);
            fresh.subject("xa");
            Works.same(pattern + " behind others", minds.match(0, 2, 3, 0), fresh.match(0, 2, 2, 0));
        }
    }

    private static String everything(Works works) {
        StringBuilder all = new StringBuilder();
        for (int how = 0; how < 3; how++) {
            for (int machine = 0; machine < 5; machine++) {
                all.append(works.match(0, how, machine, 0)).append('/');
            }
            all.append(works.it.which(1, how == 1)).append('/');
        }
        return all.append(works.it.all(0)).append('/').append(works.it.split(0)).toString();
    }

    /** As many matches as there can be, as long as they can be. */
    private static void fullSubjects() {
        Works.sentence("ALL MATCHES, in the longest subject");
        String full = "a".repeat(2000);
        Works works = new Works();
        works.subject(full);
        works.compile(0, 0, "");
        Works.same("nothing", works.it.all(0), 2001);
        Works.same("the last begins", works.it.found(2000, 0), 2000);
        Works.same("the last ends", works.it.found(2000, 1), 2000);
        Works.same("behind it", works.it.found(2001, 0), PatternWorks.NONE);
        works.compile(1, 0, "a");
        Works.same("single bytes", works.it.all(1), 2000);
        Works.same("the last ends", works.it.found(1999, 1), 2000);
        Works.same("behind it", works.it.found(2000, 0), PatternWorks.NONE);
        works.compile(2, 0, "a*");
        Works.same("one", works.all(2), "0-2000");
        works.compile(3, 0, "a*b");
        Works.same("none", works.all(3), "");
        Works.same("over", works.it.over(), 0);
        for (int machine = 0; machine < 5; machine++) {
            Works.same("from the last place", works.match(1, SEARCH, machine, 1999), "1999-2000");
            Works.same("from the end", works.match(1, SEARCH, machine, 2000), "none");
            Works.same("from the end", works.match(0, WHOLE, machine, 2000), "2000-2000");
            Works.same("the whole", works.match(2, WHOLE, machine, 0), "0-2000");
        }
    }
}
