import java.util.Arrays;

/**
 * The edges of promises 1 to 20: the last value that is taken and the first that is refused on each side, what is
 * empty and what is full, what answers NONE, what throws, and what stays as it was behind a refused call.
 */
public final class EdgesOfCallsTest {
    private static final int NONE = PatternWorks.NONE;
    private static final int LEAST = Integer.MIN_VALUE;
    private static final int MOST = Integer.MAX_VALUE;
    private static final int[] NO_SLOTS = {-1, 6, 7, 32, 64, LEAST, MOST};

    public static void main(String[] args) {
        newObject();
        feed();
        end();
        compile();
        compileRefused();
        fault();
        about();
        name();
        subject();
        match();
        group();
        all();
        found();
        replace();
        template();
        replaceRefused();
        split();
        piece();
        which();
        quote();
        output();
        keep();
        over();
        manyObjects();
        lastCalls();
        Works.finish("EdgesOfCallsTest");
    }

    private static void newObject() {
        Works.sentence("Promise 1: No patterns; subject, tape and output are empty");
        Works works = new Works();
        Counted it = works.it;
        for (int slot = 0; slot < 6; slot++) {
            int none = slot;
            for (int what = 0; what < 3; what++) {
                Works.same("about", it.about(slot, what), NONE);
            }
            Works.same("name", it.name(slot, 1, 0), NONE);
            Works.refused("match", () -> it.match(none, 0, 0, 0));
            Works.refused("all", () -> it.all(none));
            Works.refused("replace", () -> it.replace(none));
            Works.refused("split", () -> it.split(none));
        }
        Works.same("which", it.which(63, false), 0);
        Works.same("which whole", it.which(63, true), 0);
        Works.same("output", it.output(0), NONE);
        Works.same("tape", it.end(0), 0);
        Works.same("quote of the empty tape", it.quote(), 0);
        Works.same("the empty pattern", it.compile(0, 0), 0);
        Works.same("the empty subject", works.match(0, 2, 0, 0), "0-0");
        Works.refused("no place 1 in it", () -> it.match(0, 0, 0, 1));
        Works.same("the empty template", it.replace(0), 0);
        Works.same("NONE", PatternWorks.NONE, -1);
        for (String pattern : new String[] {"^$", "\\A\\z", "\\B", "(?m)^", "(?m)$", "(?:a|b)*"}) {
            emptyAtFirst(pattern, "0-0");
        }
        for (String pattern : new String[] {"\\b", "(?s).", "\\C", "\\x00", "[^a]", "a"}) {
            emptyAtFirst(pattern, "none");
        }
    }

    /** A pattern in the subject of an object that was given none. */
    private static void emptyAtFirst(String pattern, String due) {
        Works works = new Works();
        works.compile(0, 0, pattern);
        for (int machine = 0; machine < 5; machine++) {
            for (int how = 0; how < 3; how++) {
                Works.same(pattern + " how " + how + " by " + machine, works.match(0, how, machine, 0), due);
            }
        }
        Works.same(pattern + " which", works.it.which(1, false), due.equals("none") ? 0 : 1);
        Works.same(pattern + " which whole", works.it.which(1, true), due.equals("none") ? 0 : 1);
        Works.same(pattern + " all", works.all(0), due.equals("none") ? "" : due);
        Works.same(pattern + " split", works.split(0), "0-0");
    }

    private static void feed() {
        Works.sentence("Promise 2: Puts twenty bytes ready, those of a first, the highest of each first");
        Works works = new Works();
        works.it.feed(0x00010203, 0x04050607, 0x08090A0B, 0x0C0D0E0F, 0x10111213);
        works.it.end(20);
        StringBuilder counted = new StringBuilder();
        for (int i = 0; i < 20; i++) {
            counted.append((char) i);
        }
        Works.same("twenty bytes", works.tapeLike(counted.toString()), counted.toString());
        works.it.feed(-1, LEAST, MOST, 0x80, 0xFF000000);
        works.it.end(20);
        Works.same("bytes above 127", works.tapeLike("\u00FF\u00FF\u00FF\u00FF\u0080\0\0\0\u007F\u00FF\u00FF\u00FF\0\0\0\u0080\u00FF\0\0\0"), "\u00FF\u00FF\u00FF\u00FF\u0080\0\0\0\u007F\u00FF\u00FF\u00FF\0\0\0\u0080\u00FF\0\0\0");
        works.it.feed(0x61616161, 0x61616161, 0x61616161, 0x61616161, 0x61616161);
        works.it.feed(0x62000000, 0, 0, 0, 0);
        works.it.end(3);
        Works.same("the latest feed counts", works.tapeLike("b\0\0"), "b\0\0");
        works.it.feed(0x61626364, 0x65666768, 0, 0, 0);
        works.it.end(5);
        Works.same("the first n", works.tapeLike("abcde"), "abcde");
        Works.sentence("Promise 2: (They are 0 at first, and behind each end() that answers a number.)");
        Works fresh = new Works();
        Works.same("twenty", fresh.it.end(20), 20);
        Works.same("0 at first", fresh.tapeLike("\0".repeat(20)), "\0".repeat(20));
        fresh.it.feed(0x61626364, 0x65666768, 0, 0, 0);
        fresh.it.end(1);
        fresh.it.end(3);
        Works.same("0 behind an end()", fresh.tapeLike("a\0\0\0"), "a\0\0\0");
        fresh.it.feed(0x61626364, 0, 0, 0, 0);
        Works.same("an end of none", fresh.it.end(0), 0);
        fresh.it.end(2);
        Works.same("0 behind an end(0)", fresh.tapeLike("\0\0"), "\0\0");
        fresh.it.feed(0x61626364, 0, 0, 0, 0);
        Works.same("refused", fresh.it.end(-1), NONE);
        Works.same("refused", fresh.it.end(21), NONE);
        fresh.it.subject();
        fresh.it.quote();
        Works.refused("no slot", () -> fresh.it.compile(6, 0));
        fresh.it.end(2);
        Works.same("they stay behind an end() that answers none, and behind other calls", fresh.tapeLike("ab"), "ab");
        Works full = new Works();
        full.put("x".repeat(1999));
        full.it.feed(0x61626364, 0, 0, 0, 0);
        Works.same("too many", full.it.end(2), NONE);
        full.it.end(1);
        Works.same("they stay when the tape is full", full.tapeLike("x".repeat(1999) + "a"), "x".repeat(1999) + "a");
    }

    private static void end() {
        Works.sentence("Promise 3: The first n of the bytes that are ready come to the tape: how many it has");
        Works works = new Works();
        int size = 0;
        for (int n = 0; n <= 20; n++) {
            size += n;
            Works.same("end(" + n + ")", works.it.end(n), size);
        }
        Works.sentence("Promise 3: NONE, and nothing comes, if n is not 0 .. 20");
        for (int n : new int[] {-1, 21, 22, 256, LEAST, MOST, -20, MOST - 100}) {
            Works.same("end(" + n + ")", works.it.end(n), NONE);
            Works.same("nothing comes", works.it.end(0), size);
        }
        Works.sentence("Promise 3: or it would have more than 2000");
        Works full = new Works();
        full.put("x".repeat(1980));
        Works.same("2000", full.it.end(20), 2000);
        for (int n : new int[] {1, 2, 20}) {
            Works.same("more than 2000 by " + n, full.it.end(n), NONE);
        }
        Works.same("none more", full.it.end(0), 2000);
        Works.same("21 of a full tape", full.it.end(21), NONE);
        Works.same("2000 of them", full.it.subject(), 2000);
        full.put("x".repeat(1981));
        Works.same("2001", full.it.end(20), NONE);
        Works.same("2000", full.it.end(19), 2000);
        Works.same("2001", full.it.end(1), NONE);
        Works.same("what came", full.tapeLike("x".repeat(1981) + "\0".repeat(19)), "x".repeat(1981) + "\0".repeat(19));
        Works.same("empty again", full.it.end(20), 20);
    }

    private static void compile() {
        Works.sentence("Promise 4: The tape, which is empty then, is read as the pattern of a slot (0 .. 5)");
        Works works = new Works();
        for (int slot = 0; slot < 6; slot++) {
            works.put("a{" + (slot + 1) + "}");
            Works.same("groups", works.it.compile(slot, 0), 0);
            Works.same("the tape", works.it.end(0), 0);
            for (int other = 0; other < 6; other++) {
                Works.same("slot " + other, works.it.about(other, 1), other <= slot ? other + 1 : NONE);
            }
        }
        works.compile(2, 0, "abcdefghi");
        Works.same("a slot's new pattern", works.it.about(2, 1), 9);
        Works.same("the one ahead", works.it.about(1, 1), 2);
        Works.same("the one behind", works.it.about(3, 1), 4);
        Works.sentence("Promise 4: how many numbered groups");
        for (int groups = 0; groups <= 9; groups++) {
            Works.same("groups", works.compile(0, 0, "(?:)" + "()".repeat(groups)), "" + groups);
        }
        Works.sentence("Promise 4: with flags on from the beginning: 1 i, 2 m, 4 s, 8 U, and 16 LONGEST");
        for (int flags = 0; flags < 32; flags++) {
            Works each = new Works();
            for (int slot = 0; slot < 5; slot++) {
                each.compile(slot, flags, new String[] {"k", "^b", "a.", "b*", "a|a\n"}[slot]);
            }
            each.subject("Ka\nbb");
            Works.same("i of " + flags, each.it.match(0, 1, 0, 0), (flags & 1) > 0 ? 1 : NONE);
            Works.same("m of " + flags, each.it.match(1, 0, 0, 0), (flags & 2) > 0 ? 4 : NONE);
            Works.same("s of " + flags, each.it.match(2, 0, 0, 0), (flags & 4) > 0 ? 3 : NONE);
            boolean lazy = (flags & 8) > 0 && (flags & 16) == 0;
            Works.same("U of " + flags, each.it.match(3, 0, 0, 3), lazy ? 3 : 5);
            Works.same("LONGEST of " + flags, each.it.match(4, 0, 0, 0), (flags & 16) > 0 ? 3 : 2);
        }
        Works.sentence("Promise 4: a full tape is a pattern, and so is an empty one");
        Works.same("empty", works.compile(1, 0, ""), "0");
        Works.same("2000 bytes", works.compile(1, 0, "(?:" + "b".repeat(1993) + "){0}"), "0");
        Works.same("its size", works.it.about(1, 1), 0);
        Works.same("2000 bytes that are too many", works.compile(1, 0, "b".repeat(2000)), "fault 14 at -1");
    }

    private static void compileRefused() {
        Works.sentence("Promise 4: IllegalArgumentException: no such slot, flags not 0 .. 31 (both: the tape stays)");
        Works works = new Works();
        works.compile(0, 5, "(?P<n>a)b");
        works.compile(1, 0, "(x");
        works.put("c");
        for (int slot : NO_SLOTS) {
            Works.refused("slot " + slot, () -> works.it.compile(slot, 0));
            Works.refused("slot " + slot + " and flags", () -> works.it.compile(slot, 32));
        }
        for (int flags : new int[] {-1, 32, 33, 63, LEAST, MOST}) {
            Works.refused("flags " + flags, () -> works.it.compile(0, flags));
        }
        Works.same("the fault stays", works.it.fault(0), 2);
        Works.same("its place stays", works.it.fault(1), 0);
        stays(works);
        Works.same("the tape stays", works.it.end(0), 1);
        Works.same("the last slot and flags", works.it.compile(5, 31), 0);
        Works.same("the tape was that", works.it.about(5, 1), 10);
        Works.sentence("Promise 4: or a FAULT (the tape is empty); what was there stays");
        for (String pattern : new String[] {"(", ")", "[", "\\", "a**", "a{2,1}", "(?x)", "a{100}".repeat(5), "()".repeat(10), "\\pX", "[b-a]"}) {
            works.put(pattern);
            Works.refused(pattern, () -> works.it.compile(0, 0));
            Works.same("the tape is empty", works.it.end(0), 0);
            stays(works);
        }
        works.put(")");
        Works.refused("a fault in an empty slot", () -> works.it.compile(3, 0));
        Works.same("it stays empty", works.it.about(3, 0), NONE);
        Works.refused("it has no pattern", () -> works.it.all(3));
    }

    private static void stays(Works works) {
        Works.same("groups stay", works.it.about(0, 0), 1);
        Works.same("size stays", works.it.about(0, 1), 2 + 10 + 10);
        Works.same("flags stay", works.it.about(0, 2), 5);
        Works.same("the name stays", works.it.name(0, 1, 0), 'n');
        Works.same("no second byte of it", works.it.name(0, 1, 1), NONE);
    }

    private static void fault() {
        Works.sentence("Promise 5: 0 and NONE ahead of any");
        Works works = new Works();
        Works.same("fault", works.it.fault(0), 0);
        Works.same("place", works.it.fault(1), NONE);
        Works.refused("refused for the slot", () -> works.it.compile(6, 0));
        Works.refused("refused for the flags", () -> works.it.compile(0, 32));
        Works.same("fault", works.it.fault(0), 0);
        Works.same("place", works.it.fault(1), NONE);
        Works.sentence("Promise 5: Of the latest compile() that was not refused for slot or flags: the FAULT (what = 0), its place (1)");
        String[] patterns = {"ab\u00FF", "ab(", "ab)", "ab[", "ab\\", "[\\db-a]", "ab\\pX", "ab|*", "b{2,1}", "ab(?x)",
            "(?P<n>)(?P<n>)", "(?:".repeat(31), "()".repeat(10), "a".repeat(401)};
        int[] places = {2, 2, 2, 2, 2, 3, 2, 3, 1, 2, 7, 90, 18, NONE};
        for (int i = 0; i < patterns.length; i++) {
            byte[] bytes = Works.raw(patterns[i]);
            works.put(bytes);
            Works.refused(patterns[i], () -> works.it.compile(0, 0));
            Works.same("fault of " + patterns[i], works.it.fault(0), i + 1);
            Works.same("place of " + patterns[i], works.it.fault(1), places[i]);
            Works.refused("refused for the slot", () -> works.it.compile(-1, 0));
            Works.same("the fault stays", works.it.fault(0), i + 1);
            Works.same("the place stays", works.it.fault(1), places[i]);
        }
        Works.sentence("Promise 5: 0 without .. NONE without, and for 14 .. NONE for another what");
        Works.same("the place of 14", works.it.fault(1), NONE);
        works.compile(0, 0, "a)");
        for (int what : new int[] {-1, 2, 3, LEAST, MOST}) {
            Works.same("what " + what, works.it.fault(what), NONE);
        }
        works.compile(1, 0, "a");
        Works.same("no fault", works.it.fault(0), 0);
        Works.same("no place", works.it.fault(1), NONE);
    }

    private static void about() {
        Works.sentence("Promise 6: Of a slot's pattern: numbered groups (what = 0), SIZE (1), flags (2)");
        Works works = new Works();
        for (int flags = 0; flags < 32; flags++) {
            works.compile(flags % 6, flags, "(5)(?:5)(5)(?i)(?-s)");
            Works.same("groups", works.it.about(flags % 6, 0), 2);
            Works.same("size", works.it.about(flags % 6, 1), 7);
            Works.same("flags", works.it.about(flags % 6, 2), flags);
        }
        works.compile(0, 0, "");
        for (int what = 0; what < 3; what++) {
            Works.same("of the empty pattern", works.it.about(0, what), 0);
        }
        works.compile(0, 0, "a".repeat(400));
        Works.same("the greatest size", works.it.about(0, 1), 400);
        works.compile(0, 0, "()".repeat(9));
        Works.same("the most groups", works.it.about(0, 0), 9);
        Works.sentence("Promise 6: NONE for another what, or without a pattern");
        for (int what : new int[] {-1, 3, 4, LEAST, MOST}) {
            Works.same("what " + what, works.it.about(0, what), NONE);
        }
        Works fresh = new Works();
        fresh.compile(2, 0, "a");
        for (int slot : new int[] {0, 1, 3, 4, 5, -1, 6, LEAST, MOST}) {
            for (int what = 0; what < 3; what++) {
                Works.same("slot " + slot, fresh.it.about(slot, what), NONE);
            }
        }
    }

    private static void name() {
        Works.sentence("Promise 7: Byte i (from 0) of the name of group k (from 1) of a slot's pattern");
        Works works = new Works();
        works.compile(0, 0, "(?P<a>)()(?P<Zz_09>)(?:(?P<abcdefghijkl>))()()()()(?P<nine>)");
        nameIs(works, 0, 1, "a");
        nameIs(works, 0, 2, "");
        nameIs(works, 0, 3, "Zz_09");
        nameIs(works, 0, 4, "abcdefghijkl");
        nameIs(works, 0, 8, "");
        nameIs(works, 0, 9, "nine");
        works.compile(5, 0, "(?P<x>a){0}");
        nameIs(works, 5, 1, "x");
        Works.sentence("Promise 7: NONE if there is none, or it has no name");
        for (int k : new int[] {0, -1, 10, 11, LEAST, MOST}) {
            nameIs(works, 0, k, "");
        }
        nameIs(works, 5, 2, "");
        for (int i : new int[] {-1, 12, 13, LEAST, MOST}) {
            Works.same("byte " + i, works.it.name(0, 4, i), NONE);
        }
        for (int slot : new int[] {1, 2, 3, 4, -1, 6, LEAST, MOST}) {
            Works.same("slot " + slot, works.it.name(slot, 1, 0), NONE);
        }
        works.compile(0, 0, "()(?P<b>)");
        nameIs(works, 0, 1, "");
        nameIs(works, 0, 2, "b");
        nameIs(works, 0, 3, "");
        works.compile(0, 0, "");
        nameIs(works, 0, 1, "");
    }

    private static void nameIs(Works works, int slot, int k, String due) {
        for (int i = 0; i < due.length(); i++) {
            Works.same("byte " + i + " of " + due, works.it.name(slot, k, i), due.charAt(i));
        }
        Works.same("behind '" + due + "' of " + k, works.it.name(slot, k, due.length()), NONE);
        Works.same("ahead of '" + due + "' of " + k, works.it.name(slot, k, -1), NONE);
    }

    private static void subject() {
        Works.sentence("Promise 8: The tape, which is empty then, is the subject: its length");
        Works works = new Works();
        works.compile(0, 4, "\\C*");
        Works.same("empty", works.it.subject(), 0);
        Works.same("it has no bytes", works.match(0, 0, 0, 0), "0-0");
        for (int length : new int[] {1, 19, 20, 21, 1999, 2000, 33, 0}) {
            Works each = new Works();
            each.compile(0, 4, "\\C*");
            each.put("x".repeat(length));
            Works.same("length", each.it.subject(), length);
            Works.same("the tape is empty", each.it.end(0), 0);
            Works.same("all of it", each.match(0, 2, 0, 0), "0-" + length);
            Works.refused("no place behind it", () -> each.it.match(0, 0, 0, length + 1));
            each.put("y");
            Works.same("a shorter one", each.it.subject(), 1);
            Works.same("all of that", each.match(0, 0, 1, 0), "0-1");
            Works.same("nothing", each.it.subject(), 0);
            Works.same("all of nothing", each.match(0, 2, 0, 0), "0-0");
        }
        works.put("abc");
        works.it.subject();
        works.put("tape");
        works.compile(1, 0, "b");
        Works.same("what comes to the tape later is no subject", works.all(0), "0-3");
    }

    private static void match() {
        Works.sentence("Promise 9: how 0 SEARCH, 1 AT, 2 WHOLE; machine 0 .. 4: where it ends, or NONE if there is none");
        Works works = new Works();
        works.compile(0, 0, "b+?");
        works.compile(5, 0, "(a)|b");
        works.subject("abb");
        for (int machine = 0; machine < 5; machine++) {
            Works.same("search", works.it.match(0, 0, machine, 0), 2);
            Works.same("at 0", works.it.match(0, 1, machine, 0), NONE);
            Works.same("at 1", works.it.match(0, 1, machine, 1), 2);
            Works.same("whole from 0", works.it.match(0, 2, machine, 0), NONE);
            Works.same("whole from 1", works.it.match(0, 2, machine, 1), 3);
            Works.same("from the end", works.it.match(0, 0, machine, 3), NONE);
            Works.same("the last slot", works.match(5, 0, machine, 1), "1-2 -");
        }
        Works.sentence("Promise 9: IllegalArgumentException: no pattern there, no such how or machine, the place is not 0 .. the length");
        works.match(5, 0, 0, 0);
        for (int slot : NO_SLOTS) {
            Works.refused("slot " + slot, () -> works.it.match(slot, 0, 0, 0));
        }
        for (int slot = 1; slot < 5; slot++) {
            int none = slot;
            Works.refused("empty slot " + slot, () -> works.it.match(none, 0, 0, 0));
        }
        for (int how : new int[] {-1, 3, 4, LEAST, MOST}) {
            Works.refused("how " + how, () -> works.it.match(0, how, 0, 0));
        }
        for (int machine : new int[] {-1, 5, 6, LEAST, MOST}) {
            Works.refused("machine " + machine, () -> works.it.match(0, 0, machine, 0));
        }
        for (int machine = 0; machine < 5; machine++) {
            int by = machine;
            for (int how = 0; how < 3; how++) {
                int so = how;
                for (int place : new int[] {-1, 4, 5, LEAST, MOST, 2000}) {
                    Works.refused("place " + place, () -> works.it.match(0, so, by, place));
                }
            }
        }
        Works.same("the latest that was not refused begins", works.it.group(0, 0), 0);
        Works.same("the latest that was not refused ends", works.it.group(0, 1), 1);
        Works.same("its group", works.it.group(1, 0), 0);
        Works.same("over", works.it.over(), 0);
    }

    private static void group() {
        Works.sentence("Promise 10: Where the latest match() that was not refused begins (k 0) or group k does (which = 0), ends (1)");
        Works works = new Works();
        works.compile(0, 0, "x(a)(b)?(c)()(d)()()()(e)");
        works.subject("-xacde-");
        works.it.match(0, 0, 0, 0);
        int[] begins = {1, 2, NONE, 3, 4, 4, 5, 5, 5, 5};
        int[] ends = {6, 3, NONE, 4, 4, 5, 5, 5, 5, 6};
        for (int k = 0; k < 10; k++) {
            Works.same("group " + k + " begins", works.it.group(k, 0), begins[k]);
            Works.same("group " + k + " ends", works.it.group(k, 1), ends[k]);
        }
        Works.sentence("Promise 10: whatever became of the subject and the pattern");
        works.subject("zz");
        works.compile(0, 0, "z()");
        works.compile(1, 0, "z");
        works.compile(1, 0, "(");
        works.it.all(0);
        works.it.split(0);
        works.replace(0, "");
        works.it.which(63, true);
        Works.refused("no slot", () -> works.it.match(6, 0, 0, 0));
        Works.refused("no place", () -> works.it.match(0, 0, 0, 3));
        for (int k = 0; k < 10; k++) {
            Works.same("group " + k + " still begins", works.it.group(k, 0), begins[k]);
            Works.same("group " + k + " still ends", works.it.group(k, 1), ends[k]);
        }
        Works.sentence("Promise 10: NONE if it has no span, there was no match, no such group, or for another which");
        for (int k : new int[] {-1, 10, 11, LEAST, MOST}) {
            Works.same("group " + k, works.it.group(k, 0), NONE);
            Works.same("group " + k, works.it.group(k, 1), NONE);
        }
        for (int which : new int[] {-1, 2, 3, LEAST, MOST}) {
            Works.same("which " + which, works.it.group(0, which), NONE);
            Works.same("which " + which, works.it.group(1, which), NONE);
        }
        works.it.match(0, 0, 0, 0);
        Works.same("group 1 of the new pattern", works.it.group(1, 0), 1);
        for (int k = 2; k < 10; k++) {
            Works.same("no such group " + k, works.it.group(k, 0), NONE);
        }
        for (int machine = 0; machine < 5; machine++) {
            works.it.match(0, 0, machine, 0);
            Works.same("a match", works.it.group(1, 1), 1);
            works.it.match(0, 0, machine, 2);
            for (int k = 0; k < 10; k++) {
                Works.same("no match", works.it.group(k, 0), NONE);
                Works.same("no match", works.it.group(k, 1), NONE);
            }
        }
        Works fresh = new Works();
        Works.same("none at first", fresh.it.group(0, 0), NONE);
        Works.same("none at first", fresh.it.group(9, 1), NONE);
    }

    private static void all() {
        Works.sentence("Promise 11: ALL MATCHES of a slot's pattern: how many");
        Works works = new Works();
        works.compile(0, 0, "a");
        works.compile(5, 0, "");
        Works.same("of the empty subject", works.it.all(0), 0);
        Works.same("of nothing in the empty subject", works.it.all(5), 1);
        works.subject("aba");
        Works.same("two", works.it.all(0), 2);
        Works.same("four", works.it.all(5), 4);
        Works.sentence("Promise 11: IllegalArgumentException: no pattern there");
        for (int slot : NO_SLOTS) {
            Works.refused("slot " + slot, () -> works.it.all(slot));
        }
        for (int slot = 1; slot < 5; slot++) {
            int none = slot;
            Works.refused("empty slot " + slot, () -> works.it.all(none));
        }
        Works.same("what was found stays", works.it.found(3, 1), 3);
    }

    private static void found() {
        Works.sentence("Promise 12: Where match i of the latest all() begins (which = 0), ends (1)");
        Works works = new Works();
        works.compile(0, 0, "a+");
        works.subject("aabaaa");
        Works.same("two", works.it.all(0), 2);
        int[] due = {0, 2, 3, 6};
        for (int i = 0; i < 4; i++) {
            Works.same("match " + i / 2, works.it.found(i / 2, i % 2), due[i]);
        }
        works.subject("a");
        works.compile(0, 0, "");
        works.it.match(0, 0, 0, 0);
        works.it.split(0);
        works.replace(0, "-");
        works.it.which(1, true);
        Works.refused("refused", () -> works.it.all(1));
        for (int i = 0; i < 4; i++) {
            Works.same("still match " + i / 2, works.it.found(i / 2, i % 2), due[i]);
        }
        Works.sentence("Promise 12: NONE if there is none such, or for another which");
        for (int i : new int[] {-1, 2, 3, LEAST, MOST, 1 << 30, 1 << 31, (1 << 30) + 1}) {
            Works.same("match " + i, works.it.found(i, 0), NONE);
            Works.same("match " + i, works.it.found(i, 1), NONE);
        }
        for (int which : new int[] {-1, 2, 3, LEAST, MOST}) {
            Works.same("which " + which, works.it.found(0, which), NONE);
            Works.same("which " + which, works.it.found(1, which), NONE);
        }
        works.compile(0, 0, "b");
        Works.same("none", works.it.all(0), 0);
        Works.same("there is none", works.it.found(0, 0), NONE);
        Works.same("none at first", new Works().it.found(0, 0), NONE);
    }

    private static void replace() {
        Works.sentence("Promise 13: ALL MATCHES are replaced by the TEMPLATE that is on the tape: how long the output is");
        Works works = new Works();
        works.compile(0, 0, "a");
        works.compile(1, 0, "");
        Works.same("the empty subject", works.replace(0, "x"), "");
        Works.same("nothing in it", works.replace(1, "x"), "x");
        works.subject("bab");
        Works.same("one", works.replace(0, "xy"), "bxyb");
        Works.same("nothing", works.replace(1, "."), ".b.a.b.");
        Works.same("by nothing", works.replace(0, ""), "bb");
        works.subject("aaa");
        Works.same("all", works.replace(0, "b"), "bbb");
        Works.same("all, by nothing", works.replace(0, ""), "");
        Works.same("then there is no output", works.it.output(0), NONE);
        works.subject("xyz");
        Works.same("no match", works.replace(0, "$0$0"), "xyz");
        works.compile(2, 0, "x|");
        Works.same("both", works.replace(2, "<$0>"), "<x>y<>z<>");
        Works.sentence("Promise 13: (which is empty then, also if this throws for it; it is looked at even without a match)");
        works.put("abc");
        Works.same("how long", works.it.replace(0), 3);
        Works.same("the tape is empty", works.it.end(0), 0);
        for (String template : new String[] {"$", "$x", "$1", "${", "${n}"}) {
            works.put(template);
            Works.refused("without a match " + template, () -> works.it.replace(0));
            Works.same("the tape is empty", works.it.end(0), 0);
        }
        Works.same("the empty template", works.it.replace(0), 3);
    }

    private static void template() {
        Works.sentence("Promise 13: In it $ and a digit are the span of that group (nothing without one)");
        Works works = new Works();
        works.compile(0, 0, "(a)(b)?(c)(d)(e)(f)(g)(?P<h>h)(?P<n>i)");
        works.subject("-acdefghi-");
        for (int k = 0; k < 10; k++) {
            String due = k == 0 ? "acdefghi" : "a cdefghi".charAt(k - 1) + "";
            Works.same("$" + k, works.replace(0, "<$" + k + ">"), "-<" + due.trim() + ">-");
        }
        Works.same("$10", works.replace(0, "$10"), "-a0-");
        Works.same("$$1", works.replace(0, "$$1"), "-$1-");
        Works.sentence("Promise 13: ${name} of the group of that name");
        Works.same("${n}", works.replace(0, "${n}${h}${n}"), "-ihi-");
        works.compile(1, 0, "(?P<abcdefghijkl>a)|(?P<a>-)|(?P<_>i)|(?P<1>c)|(?P<0>d)");
        Works.same("the longest name", works.replace(1, "${abcdefghijkl}${a}${_}${1}${0}"), "-acdefghi-");
        Works.same("a name that is a digit", works.replace(1, "<${1}>"), "<><><c><>efgh<><>");
        Works.same("the group of that number", works.replace(1, "<$1>"), "<><a><><>efgh<><>");
        Works.sentence("Promise 13: $$ is $, all else itself");
        works.compile(2, 0, "acdefghi");
        Works.same("$$", works.replace(2, "$$"), "-$-");
        Works.same("$$$$", works.replace(2, "$$$$"), "-$$-");
        Works.same("$$$0", works.replace(2, "$$$0"), "-$acdefghi-");
        for (int item = 0; item < 256; item++) {
            if (item != '$') {
                Works each = new Works();
                each.compile(0, 0, "a");
                each.subject("a");
                Works.same("byte " + item, each.replace(0, "" + (char) item), "" + (char) item);
                Works.same("$ and byte " + item, each.replace(0, "$" + (char) item), item == '0' ? "a" : "refused");
            }
        }
        Works.same("braces", works.replace(2, "{n}\\1}"), "-{n}\\1}-");
    }

    private static void replaceRefused() {
        Works.sentence("Promise 13: IllegalArgumentException: no pattern there (the tape stays)");
        Works works = new Works();
        works.compile(0, 0, "(?P<n>a)(b)?");
        works.subject("xay");
        Works.same("an output", works.replace(0, "12"), "x12y");
        works.put("$0$0");
        for (int slot : NO_SLOTS) {
            Works.refused("slot " + slot, () -> works.it.replace(slot));
        }
        for (int slot = 1; slot < 6; slot++) {
            int none = slot;
            Works.refused("empty slot " + slot, () -> works.it.replace(none));
        }
        Works.same("the tape stays", works.it.end(0), 4);
        Works.same("the output stays", works.output(4), "x12y");
        Works.same("it is the template then", works.it.replace(0), 4);
        Works.same("it is the template then", works.output(4), "xaay");
        Works.sentence("Promise 13: a $ that is nothing of that (at the end, too), no such group");
        String[] wrong = {"$", "a$", "$$$", "$0$", "$a", "$ 1", "$-1", "$\u00B2", "$\0", "${", "${n", "${}", "${n }", "${ n}", "${nn}", "${N}",
            "${0}", "${1}", "${2}", "$n", "$3", "$9", "$0$3", "${n}$", "$}", "$/", "$:", "${n$1}", "${" + "n".repeat(13) + "}", "$1${m}", "$2$4",
            "${n}}${"};
        for (String template : wrong) {
            works.put(Works.raw(template));
            Works.refused(template, () -> works.it.replace(0));
            Works.same("the tape is empty", works.it.end(0), 0);
            Works.same("the output stays", works.output(4), "xaay");
        }
        Works.sentence("Promise 13: or more than 6000 bytes would come (the output stays)");
        tooLong("a", "a".repeat(2000), "abc", "abcd", "abc".repeat(2000));
        tooLong("a", "a".repeat(2000), "$0$0$0", "$0$0$0$0", "a".repeat(6000));
        tooLong("(a*)", "a".repeat(2000), "$0$1$0", "$0$0$1.", "a".repeat(6000));
        tooLong("a*", "a".repeat(2000), "$0$0$0", ".$0$0$0", "a".repeat(6000));
        tooLong("(?P<n>a*)", "a".repeat(2000), "${n}$1$0", "$0$$$0${n}", "a".repeat(6000));
        tooLong("", "a".repeat(352), "$0" + "x".repeat(16), "x".repeat(17), "x".repeat(16) + ("a" + "x".repeat(16)).repeat(352));
        tooLong("a{100}", "a".repeat(1000), "x".repeat(600), "x".repeat(601), "x".repeat(6000));
        tooLong("a{100}", "a".repeat(900) + "b".repeat(600), "x".repeat(600), "x".repeat(601), "x".repeat(5400) + "b".repeat(600));
        tooLong("a{100}", "b".repeat(600) + "a".repeat(900), "x".repeat(600), "x".repeat(601), "b".repeat(600) + "x".repeat(5400));
        tooLong("^a{5}$|x", "a".repeat(5), "$0" + "y".repeat(1990), "$", "a".repeat(5) + "y".repeat(1990));
    }

    /** The first template makes the longest output that may be; the second is refused, and that output stays. */
    private static void tooLong(String pattern, String subject, String fits, String refused, String due) {
        Works works = new Works();
        works.compile(0, 0, pattern);
        works.subject(subject);
        Works.same("the length", works.replaceLength(0, fits), "" + due.length());
        Works.same("the output", works.outputLike(due), due);
        works.put(refused);
        Works.refused("too much by " + pattern, () -> works.it.replace(0));
        Works.same("the tape is empty", works.it.end(0), 0);
        Works.same("the output stays", works.outputLike(due), due);
    }

    private static void split(String pattern, String subject, String due) {
        Works works = new Works();
        works.compile(4, 0, pattern);
        works.subject(subject);
        Works.same(pattern + " on " + subject, works.split(4), due);
        Works.same("how many", works.it.split(4), due.split(" ").length);
    }

    private static void split() {
        Works.sentence("Promise 14: The subject but for ALL MATCHES: how many pieces (one more than matches;");
        split(",", "a,b", "0-1 2-3");
        split(",", "ab", "0-2");
        split(",", ",", "0-0 1-1");
        split(",", ",,", "0-0 1-1 2-2");
        split(",", ",a", "0-0 1-2");
        split(",", "a,", "0-1 2-2");
        split(".*", "ab", "0-0 2-2");
        split("b", "abc", "0-1 2-3");
        split("\u00E9", "a\u00E9b", "0-1 3-4");
        Works.sentence("Promise 14: but a match of nothing at the beginning or end parts nothing, so an empty subject is one piece)");
        split("", "", "0-0");
        split("a", "", "0-0");
        split("a*", "", "0-0");
        split("^|$", "", "0-0");
        split("", "a", "0-1");
        split("", "ab", "0-1 1-2");
        split("^", "ab", "0-2");
        split("$", "ab", "0-2");
        split("^|$", "ab", "0-2");
        split("a*", "ab", "0-0 1-2");
        split("b*", "ab", "0-1 2-2");
        split("x*", "ab", "0-1 1-2");
        split("\\B", "ab", "0-1 1-2");
        split("(?m)^", "a\nb\n", "0-2 2-4");
        split("(?m)$", "a\nb", "0-1 1-3");
        split("", "\u00E9", "0-1 1-2");
        split("a|", "ab", "0-0 1-2");
        Works works = new Works();
        works.compile(0, 0, "");
        works.compile(1, 0, "a");
        works.subject("a".repeat(2000));
        Works.same("the most of nothing", works.it.split(0), 2000);
        Works.same("the last of them", works.it.piece(1999, 1), 2000);
        Works.same("behind it", works.it.piece(2000, 0), NONE);
        Works.same("the most", works.it.split(1), 2001);
        Works.same("the last of them", works.it.piece(2000, 0), 2000);
        Works.same("the last of them", works.it.piece(2000, 1), 2000);
        Works.same("behind it", works.it.piece(2001, 1), NONE);
        Works.sentence("Promise 14: IllegalArgumentException: no pattern there");
        for (int slot : NO_SLOTS) {
            Works.refused("slot " + slot, () -> works.it.split(slot));
        }
        for (int slot = 2; slot < 6; slot++) {
            int none = slot;
            Works.refused("empty slot " + slot, () -> works.it.split(none));
        }
        Works.same("the pieces stay", works.it.piece(2000, 1), 2000);
    }

    private static void piece() {
        Works.sentence("Promise 15: Where piece i of the latest split() begins (which = 0), ends (1)");
        Works works = new Works();
        works.compile(0, 0, ", *");
        works.subject("ab,  c,");
        Works.same("three", works.it.split(0), 3);
        int[] due = {0, 2, 5, 6, 7, 7};
        for (int i = 0; i < due.length; i++) {
            Works.same("piece " + i / 2, works.it.piece(i / 2, i % 2), due[i]);
        }
        works.subject("x");
        works.compile(0, 0, "x");
        works.it.all(0);
        works.it.match(0, 0, 0, 0);
        works.replace(0, "");
        Works.refused("refused", () -> works.it.split(1));
        for (int i = 0; i < due.length; i++) {
            Works.same("still piece " + i / 2, works.it.piece(i / 2, i % 2), due[i]);
        }
        Works.sentence("Promise 15: NONE if there is none such, or for another which");
        for (int i : new int[] {-1, 3, 4, LEAST, MOST, 1 << 30, (1 << 30) + 1}) {
            Works.same("piece " + i, works.it.piece(i, 0), NONE);
            Works.same("piece " + i, works.it.piece(i, 1), NONE);
        }
        for (int which : new int[] {-1, 2, 3, LEAST, MOST}) {
            Works.same("which " + which, works.it.piece(0, which), NONE);
            Works.same("which " + which, works.it.piece(1, which), NONE);
        }
        Works.same("two now", works.it.split(0), 2);
        Works.same("the second", works.it.piece(1, 0), 1);
        Works.same("no third", works.it.piece(2, 0), NONE);
        Works.same("none at first", new Works().it.piece(0, 0), NONE);
        Works.same("none at first", new Works().it.piece(0, 1), NONE);
    }

    private static void which() {
        Works.sentence("Promise 16: Of the slots that are told as bits and have a pattern, those that match in the subject");
        Works works = new Works();
        for (int slot = 0; slot < 6; slot++) {
            works.compile(slot, 0, "" + (char) ('a' + slot));
        }
        for (int bits = 0; bits < 64; bits++) {
            Works.same("all match: " + bits, works.subject("abcdef").it.which(bits, false), bits);
        }
        Works one = new Works();
        for (int slot = 0; slot < 6; slot++) {
            one.subject("fedcba");
            one.compile(slot, 0, "[a-f]");
            Works.same("up to slot " + slot, one.it.which(63, false), (2 << slot) - 1);
            works.subject("x" + (char) ('a' + slot));
            Works.same("slot " + slot, works.it.which(63, false), 1 << slot);
            Works.same("slot " + slot + " is not the whole", works.it.which(63, true), 0);
            works.subject("" + (char) ('a' + slot));
            Works.same("slot " + slot + " is the whole", works.it.which(63, true), 1 << slot);
            Works.same("not asked for", works.it.which(63 - (1 << slot), true), 0);
        }
        Works.sentence("Promise 16: by SEARCH from 0 on, or with whole WHOLE");
        Works both = new Works();
        both.compile(0, 0, "a|ab");
        both.compile(1, 0, "b");
        both.compile(2, 0, "^b");
        both.compile(3, 0, "a*?b*?");
        both.compile(4, 16, "a");
        both.compile(5, 0, "");
        both.subject("ab");
        Works.same("search", both.it.which(63, false), 1 + 2 + 8 + 16 + 32);
        Works.same("whole", both.it.which(63, true), 1 + 8);
        both.subject("");
        Works.same("search in nothing", both.it.which(63, false), 8 + 32);
        Works.same("the whole of nothing", both.it.which(63, true), 8 + 32);
        Works.sentence("Promise 16: (others than the lowest six count for nothing)");
        both.subject("ab");
        for (int bits : new int[] {64, 128, 1 << 30, LEAST, ~63}) {
            Works.same("bits " + bits, both.it.which(bits, false), 0);
            Works.same("bits " + bits + " and all", both.it.which(bits | 63, true), 1 + 8);
            Works.same("bits " + bits + " and one", both.it.which(bits | 2, false), 2);
        }
        Works.same("none are told", both.it.which(0, false), 0);
        Works.same("no patterns", new Works().it.which(-1, true), 0);
    }

    private static void quote() {
        Works.sentence("Promise 17: The tape, which is empty then, with a \\ ahead of each byte below 128 that is no letter, digit or _");
        for (int item = 0; item < 256; item++) {
            boolean plain = item > 127 || Character.isLetterOrDigit(item) || item == '_';
            Works works = new Works();
            works.put(new byte[] {(byte) item});
            Works.same("the length for " + item, works.it.quote(), plain ? 1 : 2);
            Works.same("byte " + item, works.it.output(plain ? 0 : 1), item);
            Works.same("ahead of byte " + item, works.it.output(0), plain ? item : '\\');
            Works.same("behind byte " + item, works.it.output(plain ? 1 : 2), NONE);
            Works.same("the tape is empty", works.it.end(0), 0);
        }
        Works.sentence("Promise 17: as output: its length");
        Works works = new Works();
        Works.same("of nothing", works.it.quote(), 0);
        works.put("a-".repeat(500));
        Works.same("half of them", works.it.quote(), 1500);
        works.put("\\".repeat(2000));
        Works.same("the longest", works.it.quote(), 4000);
        Works.same("its last", works.it.output(3999), '\\');
        works.put("a".repeat(1000));
        Works.same("as long as the tape", works.it.quote(), 1000);
        Works.same("nothing of the one before", works.it.output(1000), NONE);
        Works.same("of nothing again", works.it.quote(), 0);
        Works.same("no output", works.it.output(0), NONE);
    }

    private static void output() {
        Works.sentence("Promise 18: Byte i of the output; NONE if there is none");
        Works works = new Works();
        works.put(Works.raw("a\u00FF\u0080"));
        works.it.quote();
        Works.same("byte 0", works.it.output(0), 97);
        Works.same("byte 1", works.it.output(1), 255);
        Works.same("byte 2", works.it.output(2), 128);
        for (int i : new int[] {-1, 3, 4, 6000, LEAST, MOST}) {
            Works.same("byte " + i, works.it.output(i), NONE);
        }
        works.subject("xyz");
        works.compile(0, 0, "y");
        works.it.match(0, 0, 0, 0);
        works.it.all(0);
        works.it.split(0);
        works.it.which(1, false);
        Works.same("it stays behind other calls", works.output(3), "a\u00FF\u0080");
        works.replace(0, "");
        Works.same("a replacement is the output", works.output(2), "xz");
        works.put("q");
        works.it.quote();
        Works.same("a quote is the output", works.output(1), "q");
        works.subject("y".repeat(2000));
        Works.same("the longest", works.replaceLength(0, "abc"), "6000");
        Works.same("the last of the longest", works.it.output(5999), 'c');
        Works.same("behind it", works.it.output(6000), NONE);
    }

    private static void keep() {
        Works.sentence("Promise 19: (4 .. 64; at first 32): nothing that is told hangs on it");
        String due = keeping(32);
        for (int states : new int[] {4, 5, 31, 32, 33, 63, 64}) {
            Works.same("with " + states, keeping(states), due);
        }
        Works.sentence("Promise 19: IllegalArgumentException: another number");
        Works works = new Works();
        works.compile(0, 0, "(?:a|b)*a(?:a|b){7}$");
        works.subject("abbabaaabbbababbbabaabbbbaabbabab");
        String told = works.match(0, 0, 4, 0);
        for (int states : new int[] {3, 65, 0, -1, 2, 66, -4, LEAST, MOST}) {
            Works.refused("keep(" + states + ")", () -> works.it.keep(states));
            Works.same("nothing hangs on it", works.match(0, 0, 4, 0), told);
        }
        works.it.keep(4);
        Works.refused("keep(3)", () -> works.it.keep(3));
        works.it.keep(64);
        Works.refused("keep(65)", () -> works.it.keep(65));
        Works.same("nothing hangs on it", works.match(0, 0, 4, 0), told);
        Works.same("over", works.it.over(), 0);
    }

    /** What is told of patterns that need many states, when so many are kept. */
    private static String keeping(int states) {
        Works works = new Works();
        works.it.keep(states);
        works.compile(0, 0, "(?:a|b)*a(?:a|b){7}$");
        works.compile(1, 0, "(a|b)*?a(a|b){3}\\b");
        works.compile(2, 0, "(?:a|b)*b(?:a|b){6}c");
        works.compile(3, 0, "\\C*a\\C{100}\\C{100}\\C{100}c");
        works.subject(scattered(600));
        StringBuilder told = new StringBuilder();
        for (int slot = 0; slot < 4; slot++) {
            String first = works.match(slot, 0, 2, 0);
            told.append(first);
            for (int machine = 0; machine < 5; machine++) {
                Works.same("with " + states + " by " + machine, works.match(slot, 0, machine, 0), first);
            }
            Works.same("whole with " + states, works.it.match(slot, 2, 4, 0), works.it.match(slot, 2, 1, 0));
        }
        told.append(' ').append(works.it.which(15, false)).append(' ').append(works.it.which(15, true));
        return told.toString();
    }

    /** Many a and b, in an order that does not come again, so that a great many states are needed. */
    private static String scattered(int length) {
        StringBuilder text = new StringBuilder();
        int seed = 7;
        for (int i = 0; i < length; i++) {
            seed = seed * 1103515245 + 12345;
            text.append((seed >> 16 & 1) == 0 ? 'a' : 'b');
        }
        return text.toString();
    }

    private static void over() {
        Works.sentence("Promise 20: always 0");
        Works.same("at first", new Works().it.over(), 0);
        String[] steep = {"(?:(?:a{0,10}){0,10}b|a)*$", "((a*)*|(a*)*)*b", "(a|aa|aaa)*?(?:a{0,50}){0,3}", "(?:a*b)?",
            "(?:(?:|){30}a??)*c|", "a{100}"};
        Works every = new Works();
        every.subject("a".repeat(2000));
        for (int slot = 0; slot < steep.length; slot++) {
            every.compile(slot, slot == 2 ? 16 : 0, steep[slot]);
            Works works = new Works();
            works.compile(slot, slot == 2 ? 16 : 0, steep[slot]);
            works.subject("a".repeat(2000));
            for (int machine = 0; machine < 5; machine++) {
                for (int how = 0; how < 3; how++) {
                    works.it.match(slot, how, machine, 0);
                }
            }
            Works.same("behind match() of " + steep[slot], works.it.over(), 0);
            works.it.all(slot);
            works.it.split(slot);
            works.replaceLength(slot, "");
            Works.same("behind all(), split() and replace() of " + steep[slot], works.it.over(), 0);
        }
        every.it.keep(4);
        every.it.which(63, false);
        every.it.which(63, true);
        Works.same("behind which()", every.it.over(), 0);
    }

    /** Nothing of one object is another one's. */
    private static void manyObjects() {
        Works.sentence("Promise 1: each object is new");
        Works one = new Works();
        Works two = new Works();
        one.put("tape");
        one.compile(0, 0, "t");
        one.subject("tt");
        one.it.all(0);
        one.it.split(0);
        one.it.match(0, 0, 0, 1);
        one.put("q");
        one.it.quote();
        one.put("(");
        Works.refused("a fault", () -> one.it.compile(1, 0));
        one.it.feed(-1, -1, -1, -1, -1);
        int[] due = {NONE, NONE, NONE, NONE, NONE, 0, NONE, 0};
        int[] got = {two.it.about(0, 0), two.it.found(0, 0), two.it.piece(0, 0), two.it.group(0, 0), two.it.output(0), two.it.fault(0),
            two.it.fault(1), two.it.end(0)};
        Works.same("the other", Arrays.toString(got), Arrays.toString(due));
        two.it.end(1);
        Works.same("its bytes", two.tapeLike("\0"), "\0");
    }

    private static void lastCalls() {
        Works.sentence("An object is used for at most 512 calls after it has been made");
        Works works = new Works();
        works.compile(0, 0, "(a+)b?");
        works.subject("xaab");
        for (int i = 0; works.it.left() > 4; i++) {
            works.it.match(0, i % 3, i % 5, i % 5);
        }
        Works.same("call 509", works.it.match(0, 0, 4, 0), 4);
        Works.same("call 510", works.it.group(1, 1), 3);
        Works.same("call 511", works.it.all(0), 1);
        Works.same("call 512", works.it.found(0, 0), 1);
    }
}
