import java.util.ArrayList;
import java.util.Arrays;
import java.util.BitSet;
import java.util.HashMap;
import java.util.List;
import java.util.Map;

/** The document's words taken literally: patterns read by descent, ways gone through one after the other. */
final class Oracle {
    static final int TOP = 0x10FFFF;

    static final class Fault extends RuntimeException {
        final int kind;
        final int place;

        Fault(int kind, int place) {
            super(null, null, false, false);
            this.kind = kind;
            this.place = place;
        }
    }

    /** A subject on which going through all ways takes too long to be tried. */
    static final class TooLong extends RuntimeException {
        TooLong() {
            super(null, null, false, false);
        }
    }

    interface Onward {
        boolean at(int place);
    }

    interface Node {
        /** Goes each way from a place on, in order, until one is content. */
        boolean go(int place, Onward onward);
    }

    static final class Sized {
        final Node node;
        final double size;

        Sized(Node node, double size) {
            this.node = node;
            this.size = size;
        }
    }

    private final byte[] text;
    private int at = 0;
    private int flags;
    private int depth = 0;
    private final List<Integer> open = new ArrayList<>();
    int groups = 0;
    final Map<String, Integer> names = new HashMap<>();
    final double size;
    final boolean longest;
    private final Node root;

    private byte[] subject = {};
    private int[] spans = new int[20];
    private long budget;

    Oracle(byte[] text, int flags) {
        this.text = text;
        this.flags = flags;
        longest = (flags & 16) != 0;
        Sized whole = alternatives();
        if (at < text.length) {
            throw new Fault(3, at);
        }
        if (whole.size > 400) {
            throw new Fault(14, -1);
        }
        root = whole.node;
        size = whole.size;
    }

    // ---- reading

    private int peek(int ahead) {
        return at + ahead < text.length ? text[at + ahead] & 255 : -1;
    }

    private Sized alternatives() {
        List<Sized> rows = new ArrayList<>();
        rows.add(row());
        while (peek(0) == '|') {
            at++;
            rows.add(row());
        }
        double size = rows.size() - 1;
        for (Sized row : rows) {
            size += row.size;
        }
        return new Sized((place, onward) -> {
            for (Sized row : rows) {
                if (row.node.go(place, onward)) {
                    return true;
                }
            }
            return false;
        }, size);
    }

    private Sized row() {
        Sized sum = new Sized((place, onward) -> onward.at(place), 0);
        while (at < text.length && peek(0) != '|' && peek(0) != ')') {
            if (repeatHere() != null) {
                throw new Fault(8, at);
            }
            Sized part = part();
            if (part == null) {
                continue;
            }
            int[] repeat = repeatHere();
            if (repeat != null) {
                part = repeated(part, repeat);
            }
            Sized first = sum;
            Sized second = part;
            sum = new Sized((place, onward) -> first.node.go(place, p -> second.node.go(p, onward)),
                first.size + second.size);
        }
        if (at >= text.length && !open.isEmpty()) {
            throw new Fault(2, open.get(open.size() - 1));
        }
        return sum;
    }

    /** Least, most (-1: any) and how many bytes, or null. */
    private int[] repeatHere() {
        int c = peek(0);
        if (c == '*') {
            return new int[] {0, -1, 1};
        }
        if (c == '+') {
            return new int[] {1, -1, 1};
        }
        if (c == '?') {
            return new int[] {0, 1, 1};
        }
        if (c != '{') {
            return null;
        }
        String rest = new String(text, at, Math.min(9, text.length - at), java.nio.charset.StandardCharsets.ISO_8859_1);
        java.util.regex.Matcher m = java.util.regex.Pattern.compile("\\{([0-9]{1,3})(,([0-9]{1,3})?)?\\}").matcher(rest);
        if (!m.lookingAt()) {
            return null;
        }
        int n = Integer.parseInt(m.group(1));
        int most = m.group(2) == null ? n : m.group(3) == null ? -1 : Integer.parseInt(m.group(3));
        return new int[] {n, most, m.end()};
    }

    private Sized repeated(Sized x, int[] repeat) {
        int n = repeat[0];
        int m = repeat[1];
        if (peek(0) == '{' && (n > 100 || m > 100 || m != -1 && n > m)) {
            throw new Fault(9, at);
        }
        at += repeat[2];
        boolean question = peek(0) == '?';
        if (question) {
            at++;
        }
        boolean lazy = question ^ (flags & 8) != 0;
        if (m == -1) {
            return new Sized((place, onward) -> times(x.node, n, place, p -> star(x.node, lazy, p, onward)),
                n == 0 ? x.size + 1 : n * x.size + x.size + 1);
        }
        return new Sized((place, onward) -> times(x.node, n, place, p -> maybe(x.node, m - n, lazy, p, onward)),
            m * x.size + (m - n));
    }

    private boolean times(Node x, int n, int place, Onward onward) {
        spend();
        return n == 0 ? onward.at(place) : x.go(place, p -> times(x, n - 1, p, onward));
    }

    private boolean maybe(Node x, int n, boolean lazy, int place, Onward onward) {
        spend();
        if (n == 0) {
            return onward.at(place);
        }
        if (lazy && onward.at(place)) {
            return true;
        }
        if (x.go(place, p -> maybe(x, n - 1, lazy, p, onward))) {
            return true;
        }
        return !lazy && onward.at(place);
    }

    private boolean star(Node x, boolean lazy, int place, Onward onward) {
        spend();
        if (lazy && onward.at(place)) {
            return true;
        }
        if (x.go(place, p -> p > place && star(x, lazy, p, onward))) {
            return true;
        }
        return !lazy && onward.at(place);
    }

    private void spend() {
        if (--budget < 0) {
            throw new TooLong();
        }
    }

    private Sized part() {
        int c = peek(0);
        if (c == '(') {
            return group();
        }
        if (c == '[') {
            return set(charClass());
        }
        if (c == '.') {
            at++;
            BitSet any = all();
            if ((flags & 4) == 0) {
                any.clear(10);
            }
            return set(any);
        }
        if (c == '^') {
            at++;
            boolean lines = (flags & 2) != 0;
            return look(p -> p == 0 || lines && subject[p - 1] == 10);
        }
        if (c == '$') {
            at++;
            boolean lines = (flags & 2) != 0;
            return look(p -> p == subject.length || lines && subject[p] == 10);
        }
        if (c == '\\') {
            return escapePart();
        }
        return literal(character());
    }

    private Sized escapePart() {
        int c = peek(1);
        if (c == 'A' || c == 'z' || c == 'b' || c == 'B') {
            at += 2;
            switch (c) {
                case 'A': return look(p -> p == 0);
                case 'z': return look(p -> p == subject.length);
                case 'b': return look(this::edge);
                default: return look(p -> !edge(p));
            }
        }
        if (c == 'C') {
            at += 2;
            return new Sized((place, onward) -> {
                spend();
                return place < subject.length && onward.at(place + 1);
            }, 1);
        }
        Object escape = escape();
        return escape instanceof BitSet ? set((BitSet) escape) : literal((Integer) escape);
    }

    private boolean edge(int p) {
        return word(p - 1) != word(p);
    }

    private boolean word(int p) {
        return p >= 0 && p < subject.length && wordByte(subject[p] & 255);
    }

    static boolean wordByte(int c) {
        return c < 128 && (Character.isLetterOrDigit(c) || c == '_');
    }

    private Sized look(java.util.function.IntPredicate holds) {
        return new Sized((place, onward) -> {
            spend();
            return holds.test(place) && onward.at(place);
        }, 1);
    }

    private Sized literal(int code) {
        BitSet set = new BitSet();
        set.set(code);
        if ((flags & 1) != 0) {
            set = folded(set);
        }
        Sized as = set(set);
        return set.cardinality() == 1 ? new Sized(as.node, 1) : as;
    }

    private Sized set(BitSet raw) {
        BitSet set = (BitSet) raw.clone();
        set.and(all());
        double size = 2;
        for (int i = set.nextSetBit(0); i >= 0; i = set.nextSetBit(set.nextClearBit(i))) {
            size += 4;
        }
        return new Sized((place, onward) -> {
            spend();
            int code = codeAt(subject, place);
            return code >= 0 && set.get(code) && onward.at(place + width(code));
        }, size);
    }

    static BitSet all() {
        BitSet set = new BitSet(TOP + 1);
        set.set(0, TOP + 1);
        set.clear(0xD800, 0xE000);
        return set;
    }

    private static final List<int[]> PAIRS = new ArrayList<>();

    static {
        alikes(97, 122, 32);
        alikes(224, 246, 32);
        alikes(248, 254, 32);
        alikes(945, 969, 32);
        alikes(1072, 1103, 32);
        alikes(1104, 1119, 80);
        PAIRS.add(new int[] {962, 963});
        PAIRS.add(new int[] {962, 931});
        PAIRS.add(new int[] {107, 8490});
        PAIRS.add(new int[] {115, 383});
        PAIRS.add(new int[] {229, 8491});
        PAIRS.add(new int[] {181, 956});
    }

    private static void alikes(int from, int to, int less) {
        for (int c = from; c <= to; c++) {
            PAIRS.add(new int[] {c, c - less});
        }
    }

    static BitSet folded(BitSet set) {
        BitSet more = (BitSet) set.clone();
        for (int before = -1; before != more.cardinality();) {
            before = more.cardinality();
            for (int[] pair : PAIRS) {
                if (more.get(pair[0]) || more.get(pair[1])) {
                    more.set(pair[0]);
                    more.set(pair[1]);
                }
            }
        }
        return more;
    }

    private Sized group() {
        int place = at;
        int inside = flags;
        int number = 0;
        at++;
        if (peek(0) == '?') {
            String rest = new String(text, at, text.length - at, java.nio.charset.StandardCharsets.ISO_8859_1);
            java.util.regex.Matcher named = java.util.regex.Pattern.compile("\\?P<([a-zA-Z0-9_]{1,12})>").matcher(rest);
            java.util.regex.Matcher flagged = java.util.regex.Pattern.compile("\\?([imsU]*)(-([imsU]+))?([:)])").matcher(rest);
            if (named.lookingAt()) {
                at += named.end();
                if (names.containsKey(named.group(1))) {
                    throw new Fault(11, place);
                }
                number = groups + 1;
                if (open.size() < 30 && number <= 9) {
                    names.put(named.group(1), number);
                }
            } else if (flagged.lookingAt()) {
                at += flagged.end();
                for (char c : flagged.group(1).toCharArray()) {
                    inside |= bit(c);
                }
                if (flagged.group(3) != null) {
                    for (char c : flagged.group(3).toCharArray()) {
                        inside &= ~bit(c);
                    }
                }
                if (flagged.group(4).equals(")")) {
                    flags = inside;
                    return null;
                }
            } else {
                throw new Fault(10, place);
            }
        } else {
            number = groups + 1;
        }
        if (open.size() >= 30) {
            throw new Fault(12, place);
        }
        if (number > 9) {
            throw new Fault(13, place);
        }
        if (number > 0) {
            groups = number;
        }
        int outside = flags;
        flags = inside;
        open.add(place);
        Sized rows = alternatives();
        open.remove(open.size() - 1);
        at++;
        flags = outside;
        if (number == 0) {
            return rows;
        }
        int k = number;
        return new Sized((p, onward) -> {
            return rows.node.go(p, q -> {
                int begin = spans[2 * k];
                int end = spans[2 * k + 1];
                spans[2 * k] = p;
                spans[2 * k + 1] = q;
                if (onward.at(q)) {
                    return true;
                }
                spans[2 * k] = begin;
                spans[2 * k + 1] = end;
                return false;
            });
        }, rows.size + 2);
    }

    private static int bit(char c) {
        return 1 << "imsU".indexOf(c);
    }

    private int character() {
        int code = codeAt(text, at);
        if (code < 0) {
            throw new Fault(1, at);
        }
        at += width(code);
        return code;
    }

    static int width(int code) {
        return new String(Character.toChars(code)).getBytes(java.nio.charset.StandardCharsets.UTF_8).length;
    }

    /** The character that begins there, by making it and looking whether its bytes stand there. */
    static int codeAt(byte[] bytes, int at) {
        if (at >= bytes.length) {
            return -1;
        }
        for (int length = 1; length <= 4 && at + length <= bytes.length; length++) {
            String one = new String(bytes, at, length, java.nio.charset.StandardCharsets.UTF_8);
            if (one.codePointCount(0, one.length()) == 1
                && Arrays.equals(one.getBytes(java.nio.charset.StandardCharsets.UTF_8),
                    Arrays.copyOfRange(bytes, at, at + length))) {
                return one.codePointAt(0);
            }
        }
        return -1;
    }

    /** Reads an escape that is a character (Integer) or a set (BitSet). */
    private Object escape() {
        int place = at;
        int c = peek(1);
        at += 2;
        if (c == -1) {
            throw new Fault(5, place);
        }
        int simple = "afnrtv".indexOf(c);
        if (simple >= 0) {
            return new int[] {7, 12, 10, 13, 9, 11}[simple];
        }
        if (c == 'x') {
            String rest = new String(text, at, text.length - at, java.nio.charset.StandardCharsets.ISO_8859_1);
            java.util.regex.Matcher m =
                java.util.regex.Pattern.compile("([0-9a-fA-F]{2})|\\{([0-9a-fA-F]{1,6})\\}").matcher(rest);
            if (!m.lookingAt()) {
                throw new Fault(5, place);
            }
            int code = Integer.parseInt(m.group(1) != null ? m.group(1) : m.group(2), 16);
            if (code > TOP || code >= 0xD800 && code <= 0xDFFF) {
                throw new Fault(5, place);
            }
            at += m.end();
            return code;
        }
        if ("dDsSwW".indexOf(c) >= 0) {
            return kind(c);
        }
        if (c == 'p' || c == 'P') {
            int letter = peek(0);
            if (letter == -1) {
                throw new Fault(5, place);
            }
            BitSet set = property(letter);
            if (set == null) {
                throw new Fault(7, place);
            }
            at++;
            return c == 'p' ? set : not(set);
        }
        if (c < 128 && !wordByte(c)) {
            return c;
        }
        throw new Fault(5, place);
    }

    static BitSet not(BitSet set) {
        BitSet others = all();
        others.andNot(set);
        return others;
    }

    private static BitSet bits(int... ranges) {
        BitSet set = new BitSet();
        for (int i = 0; i < ranges.length; i += 2) {
            set.set(ranges[i], ranges[i + 1] + 1);
        }
        return set;
    }

    private static BitSet kind(int c) {
        BitSet set;
        switch (Character.toLowerCase(c)) {
            case 'd': set = bits('0', '9'); break;
            case 's': set = bits(9, 10, 12, 13, 32, 32); break;
            default: set = bits('0', '9', 'A', 'Z', 'a', 'z', '_', '_'); break;
        }
        return Character.isUpperCase(c) ? not(set) : set;
    }

    private static BitSet property(int letter) {
        switch (letter) {
            case 'L':
                return bits(65, 90, 97, 122, 170, 170, 181, 181, 186, 186, 192, 214, 216, 246, 248, 687, 880, 1023, 1024, 1279);
            case 'N': return bits(48, 57, 178, 179, 185, 185, 188, 190);
            case 'G': return bits(880, 1023);
            case 'Y': return bits(1024, 1279);
            default: return null;
        }
    }

    private BitSet charClass() {
        int place = at;
        at++;
        boolean not = peek(0) == '^';
        if (not) {
            at++;
        }
        BitSet set = new BitSet();
        boolean first = true;
        while (true) {
            if (at >= text.length) {
                throw new Fault(4, place);
            }
            if (peek(0) == ']' && !first) {
                at++;
                return not ? not(set) : set;
            }
            first = false;
            int itemAt = at;
            Object low;
            if (peek(0) == '[' && peek(1) == ':') {
                low = named();
            } else {
                low = classMember();
            }
            if (low instanceof BitSet) {
                set.or((BitSet) low);
                continue;
            }
            int from = (Integer) low;
            int to = from;
            if (peek(0) == '-' && peek(1) != ']') {
                at++;
                if (at >= text.length) {
                    throw new Fault(4, place);
                }
                if (peek(0) == '[' && peek(1) == ':') {
                    throw new Fault(6, itemAt);
                }
                Object high = classMember();
                if (high instanceof BitSet || (Integer) high < from) {
                    throw new Fault(6, itemAt);
                }
                to = (Integer) high;
            }
            BitSet range = bits(from, to);
            set.or((flags & 1) != 0 ? folded(range) : range);
        }
    }

    private Object classMember() {
        if (peek(0) != '\\') {
            return character();
        }
        int c = peek(1);
        if (c == 'A' || c == 'z' || c == 'b' || c == 'B' || c == 'C') {
            throw new Fault(5, at);
        }
        return escape();
    }

    private BitSet named() {
        String rest = new String(text, at, text.length - at, java.nio.charset.StandardCharsets.ISO_8859_1);
        java.util.regex.Matcher m =
            java.util.regex.Pattern.compile("\\[:(\\^?)(digit|alpha|upper|lower|punct|space):\\]").matcher(rest);
        if (!m.lookingAt()) {
            throw new Fault(7, at);
        }
        at += m.end();
        BitSet set;
        switch (m.group(2)) {
            case "digit": set = bits('0', '9'); break;
            case "alpha": set = bits('A', 'Z', 'a', 'z'); break;
            case "upper": set = bits('A', 'Z'); break;
            case "lower": set = bits('a', 'z'); break;
            case "punct": set = bits(33, 47, 58, 64, 91, 96, 123, 126); break;
            default: set = bits(9, 13, 32, 32); break;
        }
        return m.group(1).isEmpty() ? set : not(set);
    }

    // ---- matching

    void subject(byte[] bytes) {
        subject = bytes;
    }

    /** The spans of the match, or null. */
    int[] match(int how, int from) {
        budget = 100000;
        for (int start = from; start <= (how == 0 ? subject.length : from); start++) {
            Arrays.fill(spans, -1);
            int[][] best = {null};
            int begin = start;
            root.go(start, end -> {
                if (how == 2 && end < subject.length || best[0] != null && best[0][1] >= end) {
                    return false;
                }
                best[0] = spans.clone();
                best[0][0] = begin;
                best[0][1] = end;
                return how == 2 || !longest;
            });
            if (best[0] != null) {
                return best[0];
            }
        }
        return null;
    }


    List<int[]> allMatches() {
        List<int[]> found = new ArrayList<>();
        int from = 0;
        int before = -1;
        while (from <= subject.length) {
            int[] match = match(0, from);
            if (match == null) {
                break;
            }
            if (match[0] == match[1] && match[0] == before) {
                from++;
                continue;
            }
            found.add(match);
            before = match[1];
            from = match[1];
        }
        return found;
    }
}
