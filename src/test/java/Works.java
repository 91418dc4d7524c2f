import java.nio.charset.StandardCharsets;

/** Checks and short forms that the tests share: texts go to the tape as UTF-8, or byte by byte. */
final class Works {
    final Counted it = new Counted();
    /** So many characters come to the tape and are looked for in far less than 512 calls. */
    private static final int CHUNK = 200;
    private static int wrong = 0;
    private static int checked = 0;
    private static String sentence = "";
    private static int checkedBeforeIt = -1;

    static byte[] utf8(String text) {
        return text.getBytes(StandardCharsets.UTF_8);
    }

    /** Characters 0 to 255 are bytes. */
    static byte[] raw(String text) {
        return text.getBytes(StandardCharsets.ISO_8859_1);
    }

    /** The document's sentence that the checks from here on are for; each must have one. */
    static void sentence(String words) {
        endSentence();
        sentence = words + ": ";
        checkedBeforeIt = checked;
    }

    private static void endSentence() {
        if (checked == checkedBeforeIt) {
            wrong++;
            System.out.println(sentence + "nothing was looked at");
        }
    }

    static void same(String what, long got, long due) {
        same(what, "" + got, "" + due);
    }

    static void same(String what, String got, String due) {
        checked++;
        if (!got.equals(due)) {
            wrong++;
            if (wrong <= 40) {
                System.out.println(sentence + brief(what) + " answered " + brief(got) + ", due is " + brief(due));
            }
        }
    }

    private static String brief(String text) {
        return text.length() <= 300 ? text : text.substring(0, 300) + " ..";
    }

    static void refused(String what, Runnable call) {
        int got = 0;
        try {
            call.run();
        } catch (IllegalArgumentException e) {
            got = 1;
        } catch (RuntimeException e) {
            got = 2;
        }
        same(what + " throws IllegalArgumentException", got, 1);
    }

    static int wrongSoFar() {
        return wrong;
    }

    static void finish(String test) {
        endSentence();
        System.out.println(test + ": " + checked + " answers looked at, " + wrong + " wrong");
        if (wrong > 0 || checked == 0) {
            System.exit(1);
        }
    }

    private static int four(byte[] bytes, int at) {
        int value = 0;
        for (int i = 0; i < 4; i++) {
            value = value << 8 | (at + i < bytes.length ? bytes[at + i] & 255 : 0);
        }
        return value;
    }

    Works put(byte[] bytes) {
        for (int at = 0; at < bytes.length; at += 20) {
            it.feed(four(bytes, at), four(bytes, at + 4), four(bytes, at + 8), four(bytes, at + 12), four(bytes, at + 16));
            if (it.end(Math.min(20, bytes.length - at)) == PatternWorks.NONE) {
                throw new IllegalStateException("the tape is full");
            }
        }
        return this;
    }

    Works put(String text) {
        return put(utf8(text));
    }

    /** How many groups, or the fault and its place as "fault 8 at 2". */
    String compile(int slot, int flags, byte[] pattern) {
        put(pattern);
        try {
            return "" + it.compile(slot, flags);
        } catch (IllegalArgumentException e) {
            return "fault " + it.fault(0) + " at " + it.fault(1);
        }
    }

    String compile(int slot, int flags, String pattern) {
        return compile(slot, flags, utf8(pattern));
    }

    Works subject(byte[] bytes) {
        put(bytes);
        it.subject();
        return this;
    }

    Works subject(String text) {
        return subject(utf8(text));
    }

    /** The spans of a match and its groups, as "2-4 2-4 -". */
    String match(int slot, int how, int machine, int from) {
        int end = it.match(slot, how, machine, from);
        if (end != it.group(0, 1)) {
            return "match() and group() differ";
        }
        return end == PatternWorks.NONE ? "none" : spans(it.about(slot, 0));
    }

    private String spans(int groups) {
        StringBuilder all = new StringBuilder();
        for (int k = 0; k <= groups; k++) {
            all.append(k == 0 ? "" : " ").append(span(it.group(k, 0), it.group(k, 1)));
        }
        return all.toString();
    }

    static String span(int begin, int end) {
        return begin == PatternWorks.NONE && end == PatternWorks.NONE ? "-" : begin + "-" + end;
    }

    /** All matches as "0-1 2-2". */
    String all(int slot) {
        int count = it.all(slot);
        StringBuilder all = new StringBuilder();
        for (int i = 0; i < count; i++) {
            all.append(i == 0 ? "" : " ").append(span(it.found(i, 0), it.found(i, 1)));
        }
        return all.toString();
    }

    String split(int slot) {
        int count = it.split(slot);
        StringBuilder all = new StringBuilder();
        for (int i = 0; i < count; i++) {
            all.append(i == 0 ? "" : " ").append(span(it.piece(i, 0), it.piece(i, 1)));
        }
        return all.toString();
    }

    /** The output with characters 0 to 255 for bytes. */
    String output(int length) {
        StringBuilder all = new StringBuilder();
        for (int i = 0; i < length; i++) {
            all.append((char) it.output(i));
        }
        return it.output(length) == PatternWorks.NONE ? all.toString() : "the output is longer";
    }

    /** What is due, if the output is that; of a long one some bytes are looked at, as calls are few. */
    String outputLike(String due) {
        int step = due.length() < 40 ? 1 : due.length() / 20;
        for (int i = 0; i < due.length(); i++) {
            boolean looked = i % step == 0 || i < 4 || i >= due.length() - 4;
            if (looked && it.output(i) != due.charAt(i)) {
                return "byte " + i + " is " + it.output(i);
            }
        }
        return it.output(due.length()) == PatternWorks.NONE ? due : "the output is longer";
    }

    /** What is due, if the tape is that; it is empty then. */
    String tapeLike(String due) {
        StringBuilder quoted = new StringBuilder();
        for (char item : due.toCharArray()) {
            boolean word = item < 128 && (Character.isLetterOrDigit(item) || item == '_');
            quoted.append(word || item > 127 ? "" : "\\").append(item);
        }
        int length = it.quote();
        String like = outputLike(quoted.toString());
        return length == quoted.length() && like.equals(quoted.toString()) ? due : "of length " + length + ": " + like;
    }

    /** What a new object's compile() of this pattern says: how many groups, or the fault and its place. */
    static void reads(String pattern, String due) {
        same(pattern, new Works().compile(0, 0, utf8(pattern)), due);
    }

    static void readsRaw(String pattern, String due) {
        same(pattern, new Works().compile(0, 0, raw(pattern)), due);
    }

    static void size(String pattern, int flags, int due) {
        Works works = new Works();
        same(pattern + " is read", works.compile(2, flags, pattern).startsWith("fault") ? 1 : 0, 0);
        same("the size of " + pattern + " with " + flags, works.it.about(2, 1), due);
    }

    /** All machines must tell these spans of a match; the subject is bytes. */
    static void matches(String pattern, int flags, String subject, int how, int from, String due) {
        Works works = new Works();
        same(pattern + " is read", works.compile(0, flags, pattern).startsWith("fault") ? 1 : 0, 0);
        works.subject(raw(subject));
        for (int machine = 0; machine < 5; machine++) {
            same(pattern + " with " + flags + " on " + subject + " how " + how + " from " + from + " by " + machine,
                works.match(0, how, machine, from), due);
        }
    }

    static void finds(String pattern, String subject, String due) {
        matches(pattern, 0, subject, 0, 0, due);
    }

    /** The pattern as a whole takes the subject as a whole. */
    static void takes(String pattern, String subject) {
        matchesWhole(pattern, 0, subject, true);
    }

    static void takesNot(String pattern, String subject) {
        matchesWhole(pattern, 0, subject, false);
    }

    static void matchesWhole(String pattern, int flags, String subject, boolean due) {
        Works works = new Works();
        same(pattern + " is read", works.compile(0, flags, pattern).startsWith("fault") ? 1 : 0, 0);
        works.subject(subject);
        for (int machine = 0; machine < 5; machine++) {
            int end = works.it.match(0, 2, machine, 0);
            same(pattern + " with " + flags + " on the whole of " + subject + " by " + machine, end,
                due ? utf8(subject).length : PatternWorks.NONE);
        }
        same(pattern + " with " + flags + " on the whole of " + subject, works.it.which(1, true), due ? 1 : 0);
    }

    /** Which characters from one to another a pattern for one character takes, as ranges "48-57 65-90". */
    static String taken(String pattern, int flags, int from, int to) {
        StringBuilder ranges = new StringBuilder();
        int begin = -1;
        for (int low = from; low <= to; low += CHUNK) {
            Works works = new Works();
            works.compile(0, flags, pattern);
            int high = Math.min(to, low + CHUNK - 1);
            StringBuilder text = new StringBuilder();
            for (int code = low; code <= high; code++) {
                text.appendCodePoint(isCharacter(code) ? code : 0xFFFD);
            }
            works.subject(text.toString());
            java.util.Set<Integer> begins = new java.util.HashSet<>();
            int count = works.it.all(0);
            for (int i = 0; i < count; i++) {
                begins.add(works.it.found(i, 0));
            }
            int place = 0;
            for (int code = low; code <= high; code++) {
                boolean has = isCharacter(code) && begins.contains(place);
                place += utf8(new String(Character.toChars(isCharacter(code) ? code : 0xFFFD))).length;
                if (has && begin < 0) {
                    begin = code;
                }
                if (begin >= 0 && !has) {
                    ranges.append(' ').append(range(begin, code - 1));
                    begin = -1;
                }
            }
        }
        if (begin >= 0) {
            ranges.append(' ').append(range(begin, to));
        }
        return ranges.toString().trim();
    }

    static boolean isCharacter(int code) {
        return code < 0xD800 || code > 0xDFFF;
    }

    private static String range(int low, int high) {
        return low == high ? "" + low : low + "-" + high;
    }

    String replace(int slot, String template) {
        put(raw(template));
        try {
            return output(it.replace(slot));
        } catch (IllegalArgumentException e) {
            return "refused";
        }
    }

    /** How long the output is, or "refused". */
    String replaceLength(int slot, String template) {
        put(raw(template));
        try {
            return "" + it.replace(slot);
        } catch (IllegalArgumentException e) {
            return "refused";
        }
    }
}
