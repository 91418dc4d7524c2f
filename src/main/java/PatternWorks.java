import java.util.Arrays;

/**
 * A works for patterns over bytes: patterns are read into trees, trees become programs of small steps,
 * and four machines run the programs; whichever runs, what is told is the first way through the pattern.
 */
public final class PatternWorks {
    public static final int NONE = -1;

    private static final int SLOTS = 6;
    private static final int READY_BYTES = 20;
    private static final int TAPE_LIMIT = 2000;
    private static final int OUTPUT_LIMIT = 6000;
    private static final int SIZE_LIMIT = 400;
    private static final int DEPTH_LIMIT = 30;
    private static final int GROUP_LIMIT = 9;
    private static final int NAME_LIMIT = 12;
    private static final int SPAN_LIMIT = 2 * (GROUP_LIMIT + 1);

    private static final int LAST_CHARACTER = 1114111;
    private static final int GAP_FIRST = 55296;
    private static final int GAP_LAST = 57343;

    private static final int ANY_CASE = 1;
    private static final int MANY_LINES = 2;
    private static final int DOT_ALL = 4;
    private static final int TURNED = 8;
    private static final int LONGEST = 16;
    private static final int ALL_FLAGS = 31;

    private static final int SEARCH = 0;
    private static final int WHOLE = 2;

    private static final int BY_THREADS = 1;
    private static final int BY_ONE_MIND = 3;
    private static final int BY_STATES = 4;

    /** What the states answer when their rows are too short for a program, so that another machine must run. */
    private static final int GAVE_UP = -2;

    // Kinds of parts of a pattern; the first four are also kinds of states of a program.
    private static final int CHARACTER = 0;
    private static final int CLASS = 1;
    private static final int ANY_BYTE = 2;
    private static final int ASSERTION = 3;
    private static final int GROUP = 4;
    private static final int ROW = 5;

    // Kinds of states that no part is.
    private static final int SPLIT = 6;
    private static final int SAVE = 7;
    private static final int ARRIVAL = 8;
    private static final int DEAD_END = 9;

    /** Each part makes at most two states for each of its size; dead end and arrival are two more. */
    private static final int STATE_LIMIT = 2 * SIZE_LIMIT + 8;

    /** Above every state, so that a state and this tell one that waits for its character's last byte. */
    private static final int WAITING = 1024;

    // Faults of patterns.
    private static final int ODD_BYTE = 1;
    private static final int OPEN_GROUP = 2;
    private static final int NO_GROUP = 3;
    private static final int OPEN_CLASS = 4;
    private static final int NO_ESCAPE = 5;
    private static final int BAD_RANGE = 6;
    private static final int NO_KIND = 7;
    private static final int STRAY_REPEAT = 8;
    private static final int BAD_COUNT = 9;
    private static final int NO_GROUP_HEAD = 10;
    private static final int NAME_TAKEN = 11;
    private static final int TOO_DEEP = 12;
    private static final int TOO_MANY_GROUPS = 13;
    private static final int TOO_BIG = 14;

    // Assertions.
    private static final int AT_BEGIN = 0;
    private static final int AT_END = 1;
    private static final int AT_LINE_BEGIN = 2;
    private static final int AT_LINE_END = 3;
    private static final int AT_WORD_EDGE = 4;
    private static final int OFF_WORD_EDGE = 5;

    /** What stands for a $ of a template that is nothing of what it may be. */
    private static final int DEAD_DOLLAR = -100;

    /** The most of a repeat without one: more than three digits can tell. */
    private static final int ENDLESS = 1000;

    private static final int[] DIGITS = {48, 57};
    private static final int[] SPACES = {9, 10, 12, 13, 32, 32};
    private static final int[] WORDS = {48, 57, 65, 90, 95, 95, 97, 122};
    private static final int[] LETTERS = {65, 90, 97, 122, 170, 170, 181, 181, 186, 186, 192, 214, 216, 246, 248, 687,
        880, 1279};
    private static final int[] NUMBERS = {48, 57, 178, 179, 185, 185, 188, 190};
    private static final int[] GREEK = {880, 1023};
    private static final int[] CYRILLIC = {1024, 1279};
    private static final int[] PLAIN_LETTERS = {65, 90, 97, 122};
    private static final int[] PLAIN_UPPER = {65, 90};
    private static final int[] PLAIN_LOWER = {97, 122};
    private static final int[] PUNCTUATION = {33, 47, 58, 64, 91, 96, 123, 126};
    private static final int[] WIDE_SPACES = {9, 13, 32, 32};
    private static final int[] ANYTHING = {0, 55295, 57344, 1114111};
    private static final int[] ANYTHING_ON_A_LINE = {0, 9, 11, 55295, 57344, 1114111};

    /** First, last and distance: characters and those that are alike, so much further. */
    private static final int[] ALIKE_RANGES = {65, 90, 32, 192, 214, 32, 216, 222, 32, 913, 937, 32, 1040, 1071, 32,
        1024, 1039, 80};

    /** Fours of characters that are alike although no single distance says so (one may be there twice). */
    private static final int[] ALIKE_FOURS = {75, 107, 8490, 8490, 83, 115, 383, 383, 197, 229, 8491, 8491,
        181, 924, 956, 956, 930, 931, 962, 963};

    /** Where characters begin that are lines' ends, of words, of more than one byte, or no longer that. */
    private static final int[] FIXED_CUTS = {0, 10, 11, 48, 58, 65, 91, 95, 96, 97, 123, 128};

    private final int[] ready = new int[READY_BYTES];
    private final Row tape = new Row(TAPE_LIMIT);
    private final Reader reader = new Reader();
    private final Program[] programs = new Program[SLOTS];
    private final Subject subject = new Subject();
    private final int[] spans = new int[SPAN_LIMIT];
    private final Threads threads = new Threads();
    private final Marks marks = new Marks();
    private final OneMind oneMind = new OneMind();
    private final States states = new States();
    private final int[] latest = new int[SPAN_LIMIT];
    private final Row matches = new Row(2 * (TAPE_LIMIT + 1));
    private final Row pieces = new Row(2 * (TAPE_LIMIT + 2));
    private final Row template = new Row(TAPE_LIMIT);
    private Row result = new Row(OUTPUT_LIMIT);
    private Row spare = new Row(OUTPUT_LIMIT);
    private int compiled;
    private int overs;

    public PatternWorks() {
        Arrays.fill(latest, NONE);
    }

    public void feed(int a, int b, int c, int d, int e) {
        makeReady(0, a);
        makeReady(4, b);
        makeReady(8, c);
        makeReady(12, d);
        makeReady(16, e);
    }

    public int end(int n) {
        if (n < 0 || n > READY_BYTES || tape.size + n > TAPE_LIMIT) {
            return NONE;
        }
        tape.addAll(ready, 0, n);
        Arrays.fill(ready, 0);
        return tape.size;
    }

    public int compile(int slot, int flags) throws IllegalArgumentException {
        if (slot < 0 || slot >= SLOTS || flags < 0 || flags > ALL_FLAGS) {
            throw new IllegalArgumentException("no such slot or flags");
        }
        Part pattern = reader.read(tape, flags);
        tape.clear();
        if (pattern == null) {
            throw new IllegalArgumentException("a fault in the pattern");
        }
        if (programs[slot] == null) {
            programs[slot] = new Program();
        }
        compiled++;
        programs[slot].build(pattern, reader, flags, compiled);
        return programs[slot].groups;
    }

    public int fault(int what) {
        if (what == 0) {
            return reader.text.fault;
        }
        return what == 1 ? reader.text.faultPlace : NONE;
    }

    public int about(int slot, int what) {
        Program program = programAt(slot);
        if (program == null || what < 0 || what > 2) {
            return NONE;
        }
        if (what == 0) {
            return program.groups;
        }
        return what == 1 ? program.size : program.flags;
    }

    public int name(int slot, int k, int i) {
        Program program = programAt(slot);
        return program == null ? NONE : program.nameByte(k, i);
    }

    public int subject() {
        subject.take(tape);
        tape.clear();
        return subject.length;
    }

    public int match(int slot, int how, int machine, int from) throws IllegalArgumentException {
        Program program = programAt(slot);
        if (program == null || how < SEARCH || how > WHOLE || machine < 0 || machine > BY_STATES) {
            throw new IllegalArgumentException("no pattern there, or no such how or machine");
        }
        if (from < 0 || from > subject.length) {
            throw new IllegalArgumentException("no such place");
        }
        int reached = run(program, how, machine, from);
        settle(program.size, 1);
        Arrays.fill(latest, NONE);
        if (reached != NONE) {
            System.arraycopy(spans, 0, latest, 0, program.width);
        }
        return reached;
    }

    public int group(int k, int which) {
        if (k < 0 || k > GROUP_LIMIT || which < 0 || which > 1) {
            return NONE;
        }
        return latest[2 * k + which];
    }

    public int all(int slot) throws IllegalArgumentException {
        Program program = programAt(slot);
        if (program == null) {
            throw new IllegalArgumentException("no pattern there");
        }
        matches.clear();
        int before = NONE;
        marks.begin(program, subject, SEARCH, 0, spans);
        for (int turn = 0; turn <= subject.length && hunt(before); turn++) {
            matches.add(spans[0]);
            matches.add(spans[1]);
            before = spans[1];
        }
        settle(program.size, matches.size / 2);
        return matches.size / 2;
    }

    public int found(int i, int which) {
        return pairAt(matches, i, which);
    }

    public int replace(int slot) throws IllegalArgumentException {
        Program program = programAt(slot);
        if (program == null) {
            throw new IllegalArgumentException("no pattern there");
        }
        boolean sound = readTemplate(program);
        tape.clear();
        if (!sound) {
            throw new IllegalArgumentException("no such template");
        }
        spare.clear();
        int before = NONE;
        int count = 0;
        boolean fits = true;
        marks.begin(program, subject, SEARCH, 0, spans);
        for (int turn = 0; turn <= subject.length && fits && hunt(before); turn++) {
            fits = spare.addAll(subject.bytes, Math.max(before, 0), spans[0]) && addTemplate();
            before = spans[1];
            count++;
        }
        settle(program.size, count);
        if (!fits || !spare.addAll(subject.bytes, Math.max(before, 0), subject.length)) {
            throw new IllegalArgumentException("too much output");
        }
        Row filled = spare;
        spare = result;
        result = filled;
        return result.size;
    }

    public int split(int slot) throws IllegalArgumentException {
        Program program = programAt(slot);
        if (program == null) {
            throw new IllegalArgumentException("no pattern there");
        }
        pieces.clear();
        pieces.add(0);
        int before = NONE;
        int count = 0;
        marks.begin(program, subject, SEARCH, 0, spans);
        for (int turn = 0; turn <= subject.length && hunt(before); turn++) {
            before = spans[1];
            count++;
            boolean parts = spans[0] < spans[1] || spans[0] > 0 && spans[0] < subject.length;
            if (parts) {
                pieces.add(spans[0]);
                pieces.add(spans[1]);
            }
        }
        pieces.add(subject.length);
        settle(program.size, count);
        return pieces.size / 2;
    }

    public int piece(int i, int which) {
        return pairAt(pieces, i, which);
    }

    public int which(int slots, boolean whole) {
        int answer = 0;
        int size = 0;
        int looked = 0;
        for (int slot = 0; slot < SLOTS; slot++) {
            Program program = programs[slot];
            if (program != null && (slots >> slot & 1) != 0) {
                size += program.size;
                looked++;
                int how = whole ? WHOLE : SEARCH;
                int told = states.tell(program, subject, how, 0);
                boolean isThere = told == GAVE_UP ? run(program, how, 0, 0) != NONE : told == 1;
                answer |= isThere ? 1 << slot : 0;
            }
        }
        settle(size, looked);
        return answer;
    }

    public int quote() {
        result.clear();
        for (int i = 0; i < tape.size; i++) {
            int item = tape.at(i);
            if (item < 128 && !isWord(item)) {
                result.add('\\');
            }
            result.add(item);
        }
        tape.clear();
        return result.size;
    }

    public int output(int i) {
        return result.at(i);
    }

    public void keep(int states) throws IllegalArgumentException {
        if (states < 4 || states > States.KEPT_LIMIT) {
            throw new IllegalArgumentException("no such number of states");
        }
        this.states.holdAtMost(states);
    }

    public int over() {
        return overs;
    }

    private void makeReady(int at, int four) {
        for (int i = 0; i < 4; i++) {
            ready[at + i] = four >>> 24 - 8 * i & 255;
        }
    }

    private Program programAt(int slot) {
        return slot >= 0 && slot < SLOTS ? programs[slot] : null;
    }

    private static int pairAt(Row row, int i, int which) {
        boolean told = i >= 0 && i < row.size / 2 && which >= 0 && which <= 1;
        return told ? row.at(2 * i + which) : NONE;
    }

    /** Where the match ends, which stands in the spans then, or NONE. */
    private int run(Program program, int how, int machine, int from) {
        if (machine == BY_THREADS) {
            return threads.find(program, subject, how, from, spans);
        }
        if (machine == BY_ONE_MIND && how != SEARCH && oneMind.suits(program)) {
            return oneMind.find(program, subject, how, from, spans);
        }
        if (machine == BY_STATES && states.tell(program, subject, how, from) == 0) {
            return NONE;
        }
        marks.begin(program, subject, how, from, spans);
        return marks.find(from);
    }

    /** Finds the next of all matches, by the marks that were begun, behind the one that ended at a place or NONE. */
    private boolean hunt(int before) {
        int reached = marks.find(Math.max(before, 0));
        if (reached != NONE && reached == before && spans[0] == before) {
            reached = before < subject.length ? marks.find(before + 1) : NONE;
        }
        return reached != NONE;
    }

    /** Counts the call if it took more steps than the document allows. */
    private void settle(int size, int looked) {
        long most = 400L * (size + 20) * (subject.length + 20) * (looked + 1);
        long taken = threads.steps + marks.steps + oneMind.steps + states.steps;
        if (taken > most) {
            overs++;
        }
        threads.steps = 0;
        marks.steps = 0;
        oneMind.steps = 0;
        states.steps = 0;
    }

    /** Turns the tape into bytes and, below 0, groups; false if it is no template for the program. */
    private boolean readTemplate(Program program) {
        template.clear();
        int at = 0;
        for (int turn = 0; turn < TAPE_LIMIT && at < tape.size; turn++) {
            int item = tape.at(at);
            int length = 1;
            if (item == '$') {
                length = dollarLength(at);
                item = dollarItem(program, at, length);
            }
            if (item == DEAD_DOLLAR) {
                return false;
            }
            template.add(item);
            at += length;
        }
        return true;
    }

    private int dollarLength(int at) {
        if (tape.at(at + 1) != '{') {
            return 2;
        }
        int length = 2;
        for (int i = at + 2; i < tape.size && tape.at(i) != '}'; i++) {
            length++;
        }
        return length + 1;
    }

    private int dollarItem(Program program, int at, int length) {
        int next = tape.at(at + 1);
        if (next == '$') {
            return '$';
        }
        int group = NONE;
        if (next >= '0' && next <= '9' && next - '0' <= program.groups) {
            group = next - '0';
        } else if (next == '{' && at + length <= tape.size) {
            group = program.groupNamed(tape, at + 2, length - 3);
        }
        return group == NONE ? DEAD_DOLLAR : -1 - group;
    }

    /** Puts the template, filled with the match's groups, to the spare row; false if that gets too long. */
    private boolean addTemplate() {
        boolean fits = true;
        for (int i = 0; i < template.size && fits; i++) {
            int item = template.items[i];
            if (item >= 0) {
                fits = spare.add(item);
            } else {
                int slot = 2 * (-1 - item);
                fits = spans[slot] == NONE || spare.addAll(subject.bytes, spans[slot], spans[slot + 1]);
            }
        }
        return fits;
    }

    private static boolean isWord(int code) {
        return code >= '0' && code <= '9' || code >= 'A' && code <= 'Z' || code >= 'a' && code <= 'z' || code == '_';
    }

    private static boolean isCharacter(int code) {
        return code >= 0 && code <= LAST_CHARACTER && (code < GAP_FIRST || code > GAP_LAST);
    }

    private static int widthOf(int code) {
        if (code < 128) {
            return 1;
        }
        if (code < 2048) {
            return 2;
        }
        return code < 65536 ? 3 : 4;
    }

    /** The character that begins at a place of a row of bytes, NONE if that byte is odd. */
    private static int codeAt(int[] bytes, int at, int length) {
        if (at < 0 || at >= length || at >= bytes.length) {
            return NONE;
        }
        int lead = bytes[at];
        if (lead < 128) {
            return lead;
        }
        int width = lead < 0xC2 || lead > 0xF4 ? 0 : lead < 0xE0 ? 2 : lead < 0xF0 ? 3 : 4;
        if (width == 0 || at + width > length) {
            return NONE;
        }
        int code = lead & 0x7F >> width;
        for (int i = 1; i < width; i++) {
            int tail = bytes[at + i];
            if ((tail & 0xC0) != 0x80) {
                return NONE;
            }
            code = code << 6 | tail & 0x3F;
        }
        return widthOf(code) == width && isCharacter(code) ? code : NONE;
    }

    /** An entry of a stack, below 0 as no state is, that brings back what a row of spans has now. */
    private static int undoOf(int[] work, int slot) {
        return -1 - (slot << 12 | work[slot] + 1);
    }

    private static void undo(int[] work, int entry) {
        int told = -1 - entry;
        work[told >> 12] = (told & 4095) - 1;
    }

    /** A row of numbers that grows up to a limit and is used again. */
    private static final class Row {
        private final int limit;
        private int[] items = new int[32];
        private int size;

        Row(int limit) {
            this.limit = limit;
        }

        void clear() {
            size = 0;
        }

        int at(int i) {
            return i >= 0 && i < size ? items[i] : NONE;
        }

        boolean add(int item) {
            if (!makeRoom(1)) {
                return false;
            }
            items[size] = item;
            size++;
            return true;
        }

        boolean addAll(int[] from, int begin, int end) {
            if (end < begin || !makeRoom(end - begin)) {
                return false;
            }
            System.arraycopy(from, begin, items, size, end - begin);
            size += end - begin;
            return true;
        }

        private boolean makeRoom(int more) {
            if (size + more > limit) {
                return false;
            }
            if (size + more > items.length) {
                items = Arrays.copyOf(items, Math.min(limit, Math.max(size + more, 2 * items.length)));
            }
            return true;
        }
    }

    /** A set of characters as ranges in order, as few as may be. */
    private static final class CharSet {
        private int[] bounds = new int[64];
        private int count;

        void clear() {
            count = 0;
        }

        /** The first range that ends at a character or behind it. */
        private int rangeFrom(int code) {
            int low = 0;
            int high = count;
            for (int turn = 0; turn < 32 && low < high; turn++) {
                int middle = low + high >>> 1;
                if (bounds[2 * middle + 1] < code) {
                    low = middle + 1;
                } else {
                    high = middle;
                }
            }
            return low;
        }

        boolean meets(int low, int high) {
            int range = rangeFrom(low);
            return range < count && bounds[2 * range] <= high;
        }

        void add(int low, int high) {
            int from = rangeFrom(low - 1);
            int to = from;
            int least = low;
            int most = high;
            for (; to < count && bounds[2 * to] <= high + 1; to++) {
                least = Math.min(least, bounds[2 * to]);
                most = Math.max(most, bounds[2 * to + 1]);
            }
            if (2 * count + 2 > bounds.length) {
                bounds = Arrays.copyOf(bounds, 2 * bounds.length);
            }
            System.arraycopy(bounds, 2 * to, bounds, 2 * from + 2, 2 * (count - to));
            bounds[2 * from] = least;
            bounds[2 * from + 1] = most;
            count += 1 - (to - from);
        }

        /** Adds a range with all that are alike to one of it. */
        void addAlike(int low, int high) {
            add(low, high);
            for (int i = 0; i + 2 < ALIKE_RANGES.length; i += 3) {
                int far = ALIKE_RANGES[i + 2];
                addMoved(Math.max(low, ALIKE_RANGES[i]), Math.min(high, ALIKE_RANGES[i + 1]), far);
                addMoved(Math.max(low, ALIKE_RANGES[i] + far), Math.min(high, ALIKE_RANGES[i + 1] + far), -far);
            }
            for (int i = 0; i + 3 < ALIKE_FOURS.length; i += 4) {
                boolean meets = false;
                for (int k = i; k < i + 4; k++) {
                    meets |= ALIKE_FOURS[k] >= low && ALIKE_FOURS[k] <= high;
                }
                for (int k = i; k < i + 4 && meets; k++) {
                    add(ALIKE_FOURS[k], ALIKE_FOURS[k]);
                }
            }
        }

        private void addMoved(int low, int high, int far) {
            if (low <= high) {
                add(low + far, high + far);
            }
        }

        void addAll(int[] ranges, boolean not) {
            int next = 0;
            for (int i = 0; i + 1 < ranges.length; i += 2) {
                if (!not) {
                    add(ranges[i], ranges[i + 1]);
                } else if (ranges[i] > next) {
                    add(next, ranges[i] - 1);
                }
                next = ranges[i + 1] + 1;
            }
            if (not && next <= LAST_CHARACTER) {
                add(next, LAST_CHARACTER);
            }
        }

        /** The ranges of the set, or of all that is not in it, none of them over the gap in the characters. */
        int[] ranges(boolean not) {
            int[] plain = Arrays.copyOf(bounds, 2 * count);
            if (not) {
                clear();
                addAll(plain, true);
                plain = Arrays.copyOf(bounds, 2 * count);
            }
            int[] cut = new int[plain.length + 2];
            int used = 0;
            for (int i = 0; i + 1 < plain.length; i += 2) {
                if (plain[i] < GAP_FIRST) {
                    cut[used] = plain[i];
                    cut[used + 1] = Math.min(plain[i + 1], GAP_FIRST - 1);
                    used += 2;
                }
                if (plain[i + 1] > GAP_LAST) {
                    cut[used] = Math.max(plain[i], GAP_LAST + 1);
                    cut[used + 1] = plain[i + 1];
                    used += 2;
                }
            }
            return Arrays.copyOf(cut, used);
        }
    }

    /** A part of a pattern with its repeat, a row of parts, or a group of rows. */
    private static final class Part {
        /** Far above the limit, and far below what 100 times it would break. */
        private static final int SIZE_TOP = 1000000;

        private final int kind;
        private final int value;
        private int[] ranges;
        private int place = NONE;
        private int flagsAround;
        private Part outer;
        private Part last;
        private Part before;
        private int size;
        private boolean mayBeEmpty;
        private boolean onceEmpty;
        private int least;
        private int most;
        private boolean lazy;
        private int record = NONE;

        Part(int kind, int value, int size, boolean mayBeEmpty) {
            this.kind = kind;
            this.value = value;
            this.size = size;
            this.mayBeEmpty = mayBeEmpty;
        }

        /** Puts a part behind those that a row has, or a row behind those that a group has. */
        void push(Part part) {
            part.before = last;
            last = part;
        }

        void pushInLastRow(Part part) {
            if (last != null) {
                last.push(part);
                last.size = Math.min(SIZE_TOP, last.size + part.size);
                last.mayBeEmpty &= part.mayBeEmpty;
            }
        }

        /** Sums up a group whose rows are all there. */
        void closeRows() {
            for (Part row = last; row != null; row = row.before) {
                int bar = row.before == null ? 0 : 1;
                size = Math.min(SIZE_TOP, size + row.size + bar);
                mayBeEmpty |= row.mayBeEmpty;
            }
        }

        void repeat(int least, int most, boolean lazy) {
            this.least = least;
            this.most = most;
            this.lazy = lazy;
            int times = most == ENDLESS ? least + 1 : most;
            int more = most == ENDLESS ? 1 : most - least;
            onceEmpty = mayBeEmpty;
            size = Math.min(SIZE_TOP, times * size + more);
            mayBeEmpty |= least == 0;
        }
    }

    /** The pattern's bytes, the place that is read next, the first fault, escapes and classes. */
    private static final class Text {
        /** Escapes that are no character; lower ones are assertions. */
        private static final int A_KIND = -2;
        private static final int A_BYTE = -3;
        private static final int AN_ASSERTION = -4;

        private final CharSet set = new CharSet();
        private int[] bytes = new int[0];
        private int length;
        private int place;
        private int fault;
        private int faultPlace = NONE;
        private int[] kind = DIGITS;
        private boolean kindNot;

        void begin(Row tape) {
            bytes = tape.items;
            length = tape.size;
            place = 0;
            fault = 0;
            faultPlace = NONE;
        }

        int peek(int ahead) {
            int at = place + ahead;
            return at >= 0 && at < length ? bytes[at] : NONE;
        }

        int fail(int what, int where) {
            if (fault == 0) {
                fault = what;
                faultPlace = where;
            }
            return NONE;
        }

        int character() {
            int code = codeAt(bytes, place, length);
            if (code == NONE) {
                return fail(ODD_BYTE, place);
            }
            place += widthOf(code);
            return code;
        }

        /** Reads an escape: its character, or what else it is. */
        int escape() {
            int at = place;
            int letter = peek(1);
            place = at + 2;
            switch (letter) {
                case 'a': return 7;
                case 'f': return 12;
                case 'n': return 10;
                case 'r': return 13;
                case 't': return 9;
                case 'v': return 11;
                case 'x': return hexadecimal(at);
                case 'A': return AN_ASSERTION - AT_BEGIN;
                case 'z': return AN_ASSERTION - AT_END;
                case 'b': return AN_ASSERTION - AT_WORD_EDGE;
                case 'B': return AN_ASSERTION - OFF_WORD_EDGE;
                case 'C': return A_BYTE;
                case 'd': case 'D': return aKind(DIGITS, letter == 'D');
                case 's': case 'S': return aKind(SPACES, letter == 'S');
                case 'w': case 'W': return aKind(WORDS, letter == 'W');
                case 'p': case 'P': return property(at, letter == 'P');
                default: return letter >= 0 && letter < 128 && !isWord(letter) ? letter : fail(NO_ESCAPE, at);
            }
        }

        private int aKind(int[] ranges, boolean not) {
            kind = ranges;
            kindNot = not;
            return A_KIND;
        }

        private int property(int at, boolean not) {
            int letter = peek(0);
            place++;
            switch (letter) {
                case 'L': return aKind(LETTERS, not);
                case 'N': return aKind(NUMBERS, not);
                case 'G': return aKind(GREEK, not);
                case 'Y': return aKind(CYRILLIC, not);
                default: return fail(letter == NONE ? NO_ESCAPE : NO_KIND, at);
            }
        }

        private int hexadecimal(int at) {
            boolean braces = peek(0) == '{';
            place += braces ? 1 : 0;
            int most = braces ? 6 : 2;
            int code = 0;
            int digits = 0;
            for (int digit = hexDigit(place); digits < most && digit >= 0; digit = hexDigit(place)) {
                code = 16 * code + digit;
                digits++;
                place++;
            }
            boolean whole = braces ? digits > 0 && peek(0) == '}' : digits == 2;
            place += braces ? 1 : 0;
            return whole && isCharacter(code) ? code : fail(NO_ESCAPE, at);
        }

        private int hexDigit(int at) {
            int digit = at < length ? bytes[at] : NONE;
            if (digit >= '0' && digit <= '9') {
                return digit - '0';
            }
            int letter = digit | 32;
            return digit >= 0 && letter >= 'a' && letter <= 'f' ? letter - 'a' + 10 : NONE;
        }

        /** Reads a class: its ranges, or null at a fault. */
        int[] charClass(boolean alike) {
            int open = place;
            boolean not = peek(1) == '^';
            place += not ? 2 : 1;
            int first = place;
            set.clear();
            for (int turn = 0; turn <= length && fault == 0; turn++) {
                int at = place;
                if (peek(0) == ']' && at > first) {
                    place++;
                    return set.ranges(not);
                }
                int low = isNamedKind() ? namedKind() : member(open);
                int high = low;
                if (low >= 0 && peek(0) == '-' && peek(1) != ']') {
                    place++;
                    high = isNamedKind() ? A_KIND : member(open);
                    if (high == A_KIND || high >= 0 && high < low) {
                        fail(BAD_RANGE, at);
                    }
                }
                if (fault == 0 && low == A_KIND) {
                    set.addAll(kind, kindNot);
                } else if (fault == 0 && alike) {
                    set.addAlike(low, high);
                } else if (fault == 0) {
                    set.add(low, high);
                }
            }
            return null;
        }

        /** Reads a character of a class, plain or by an escape, or an escape that is a kind. */
        private int member(int open) {
            if (place >= length) {
                return fail(OPEN_CLASS, open);
            }
            if (peek(0) != '\\') {
                return character();
            }
            int at = place;
            int code = escape();
            return code < A_KIND ? fail(NO_ESCAPE, at) : code;
        }

        private boolean isNamedKind() {
            return peek(0) == '[' && peek(1) == ':';
        }

        private int namedKind() {
            int at = place;
            boolean not = peek(2) == '^';
            int begin = at + (not ? 3 : 2);
            int[] ranges = rangesNamed(begin);
            place = begin + 7;
            return ranges == null ? fail(NO_KIND, at) : aKind(ranges, not);
        }

        private int[] rangesNamed(int begin) {
            if (isAt(begin, "digit:]")) {
                return DIGITS;
            }
            if (isAt(begin, "alpha:]")) {
                return PLAIN_LETTERS;
            }
            if (isAt(begin, "upper:]")) {
                return PLAIN_UPPER;
            }
            if (isAt(begin, "lower:]")) {
                return PLAIN_LOWER;
            }
            if (isAt(begin, "punct:]")) {
                return PUNCTUATION;
            }
            return isAt(begin, "space:]") ? WIDE_SPACES : null;
        }

        private boolean isAt(int begin, String name) {
            boolean same = begin + name.length() <= length;
            for (int i = 0; i < name.length() && same; i++) {
                same = bytes[begin + i] == name.charAt(i);
            }
            return same;
        }
    }

    /** Reads a pattern into parts. */
    private static final class Reader {
        private final Text text = new Text();
        private Part inner = new Part(GROUP, 0, 0, false);
        private int depth;
        private int flags;
        private int groups;
        private final int[] nameAt = new int[GROUP_LIMIT + 1];
        private final int[] nameLength = new int[GROUP_LIMIT + 1];
        private int least;
        private int most;
        private int behindRepeat;

        /** The whole pattern as a group, or null if there is a fault. */
        Part read(Row tape, int flags) {
            text.begin(tape);
            this.flags = flags;
            groups = 0;
            depth = 0;
            Part whole = new Part(GROUP, 0, 0, false);
            whole.push(new Part(ROW, 0, 0, true));
            inner = whole;
            for (int turn = 0; turn < text.length && text.place < text.length && text.fault == 0; turn++) {
                Part part = part();
                if (part != null) {
                    append(part);
                }
            }
            if (depth > 0) {
                text.fail(OPEN_GROUP, inner.place);
            }
            whole.closeRows();
            if (whole.size > SIZE_LIMIT) {
                text.fail(TOO_BIG, NONE);
            }
            return text.fault == 0 ? whole : null;
        }

        private boolean isOn(int flag) {
            return (flags & flag) != 0;
        }

        /** Reads what stands here: a part that is whole, or null. */
        private Part part() {
            int at = text.place;
            switch (text.peek(0)) {
                case '\\':
                    int code = text.escape();
                    return code >= NONE ? literal(code) : escaped(code);
                case '[': return classPart(text.charClass(isOn(ANY_CASE)));
                case '(':
                    open(at);
                    return null;
                case ')': return close();
                case '.':
                    text.place++;
                    return classPart(isOn(DOT_ALL) ? ANYTHING : ANYTHING_ON_A_LINE);
                case '^':
                    text.place++;
                    return new Part(ASSERTION, isOn(MANY_LINES) ? AT_LINE_BEGIN : AT_BEGIN, 1, true);
                case '$':
                    text.place++;
                    return new Part(ASSERTION, isOn(MANY_LINES) ? AT_LINE_END : AT_END, 1, true);
                case '|':
                    text.place++;
                    inner.push(new Part(ROW, 0, 0, true));
                    return null;
                default:
                    if (isRepeat()) {
                        text.fail(STRAY_REPEAT, at);
                        return null;
                    }
                    return literal(text.character());
            }
        }

        private Part escaped(int what) {
            if (what == Text.A_BYTE) {
                return new Part(ANY_BYTE, 0, 1, false);
            }
            if (what <= Text.AN_ASSERTION) {
                return new Part(ASSERTION, Text.AN_ASSERTION - what, 1, true);
            }
            text.set.clear();
            text.set.addAll(text.kind, text.kindNot);
            return classPart(text.set.ranges(false));
        }

        private Part classPart(int[] ranges) {
            if (ranges == null) {
                return null;
            }
            Part part = new Part(CLASS, 0, 2 + 2 * ranges.length, false);
            part.ranges = ranges;
            return part;
        }

        private Part literal(int code) {
            if (code == NONE) {
                return null;
            }
            if (isOn(ANY_CASE)) {
                text.set.clear();
                text.set.addAlike(code, code);
                int[] ranges = text.set.ranges(false);
                if (ranges.length > 2 || ranges[0] < ranges[1]) {
                    return classPart(ranges);
                }
            }
            return new Part(CHARACTER, code, 1, false);
        }

        private void open(int at) {
            text.place = at + 1;
            if (text.peek(0) != '?') {
                enter(at, true, flags, 0);
            } else if (text.peek(1) == 'P' && text.peek(2) == '<') {
                int name = nameLengthAt(at + 4);
                text.place = at + 5 + name;
                if (name == 0 || isTaken(at + 4, name)) {
                    text.fail(name == 0 ? NO_GROUP_HEAD : NAME_TAKEN, at);
                } else {
                    enter(at, true, flags, name);
                }
            } else {
                text.place = at + 2;
                int inside = flagsTold(at);
                boolean groupFollows = text.peek(0) == ':';
                text.place++;
                if (inside != NONE && groupFollows) {
                    enter(at, false, inside, 0);
                } else if (inside != NONE) {
                    flags = inside;
                }
            }
        }

        private void enter(int at, boolean numbered, int inside, int name) {
            if (depth >= DEPTH_LIMIT || numbered && groups >= GROUP_LIMIT) {
                text.fail(depth >= DEPTH_LIMIT ? TOO_DEEP : TOO_MANY_GROUPS, at);
                return;
            }
            if (numbered) {
                groups++;
                nameAt[groups] = name > 0 ? at + 4 : 0;
                nameLength[groups] = name;
            }
            Part group = new Part(GROUP, numbered ? groups : 0, numbered ? 2 : 0, false);
            group.place = at;
            group.flagsAround = flags;
            group.push(new Part(ROW, 0, 0, true));
            group.outer = inner;
            inner = group;
            depth++;
            flags = inside;
        }

        private Part close() {
            if (inner.outer == null) {
                text.fail(NO_GROUP, text.place);
                return null;
            }
            Part group = inner;
            inner = group.outer;
            depth--;
            text.place++;
            flags = group.flagsAround;
            group.closeRows();
            return group;
        }

        /** How long the name is that begins at a place and ends with a >, 0 if there is none. */
        private int nameLengthAt(int begin) {
            int length = 0;
            for (int at = begin; at < text.length && length <= NAME_LIMIT && isWord(text.bytes[at]); at++) {
                length++;
            }
            boolean ends = begin + length < text.length && text.bytes[begin + length] == '>';
            return ends && length <= NAME_LIMIT ? length : 0;
        }

        private boolean isTaken(int begin, int length) {
            boolean taken = false;
            for (int k = 1; k <= groups && !taken; k++) {
                taken = nameLength[k] == length;
                for (int i = 0; i < length && taken; i++) {
                    taken = text.bytes[nameAt[k] + i] == text.bytes[begin + i];
                }
            }
            return taken;
        }

        /** Reads flags up to the : or ) behind them: what is on then, or NONE at a fault. */
        private int flagsTold(int at) {
            int on = 0;
            int off = 0;
            boolean minus = false;
            for (int turn = 0; turn <= text.length; turn++) {
                int letter = text.peek(0);
                if (letter == ':' || letter == ')') {
                    break;
                }
                int flag = flagOf(letter);
                if (flag == 0 && (minus || letter != '-')) {
                    return text.fail(NO_GROUP_HEAD, at);
                }
                on |= minus ? 0 : flag;
                off |= minus ? flag : 0;
                minus |= flag == 0;
                text.place++;
            }
            return minus && off == 0 ? text.fail(NO_GROUP_HEAD, at) : (flags | on) & ~off;
        }

        private static int flagOf(int letter) {
            switch (letter) {
                case 'i': return ANY_CASE;
                case 'm': return MANY_LINES;
                case 's': return DOT_ALL;
                case 'U': return TURNED;
                default: return 0;
            }
        }

        /** Puts a part into the row that is read, with the repeat that stands behind it. */
        private void append(Part part) {
            if (isRepeat()) {
                int at = text.place;
                boolean counted = text.peek(0) == '{';
                boolean tooMuch = least > 100 || most != ENDLESS && (most > 100 || least > most);
                if (counted && tooMuch) {
                    text.fail(BAD_COUNT, at);
                    return;
                }
                text.place = behindRepeat;
                boolean asked = text.peek(0) == '?';
                text.place += asked ? 1 : 0;
                part.repeat(least, most, asked != isOn(TURNED));
            } else {
                part.repeat(1, 1, false);
            }
            inner.pushInLastRow(part);
        }

        /** Tells whether a repeat stands here, and if so how often and where it ends. */
        private boolean isRepeat() {
            int sign = text.peek(0);
            least = sign == '+' ? 1 : 0;
            most = sign == '?' ? 1 : ENDLESS;
            behindRepeat = text.place + 1;
            if (sign != '{') {
                return sign == '*' || sign == '+' || sign == '?';
            }
            least = number();
            if (least == NONE) {
                return false;
            }
            most = least;
            if (byteAt(behindRepeat) == ',') {
                behindRepeat++;
                most = byteAt(behindRepeat) == '}' ? ENDLESS : number();
            }
            behindRepeat++;
            return most != NONE && byteAt(behindRepeat - 1) == '}';
        }

        private int byteAt(int at) {
            return at < text.length ? text.bytes[at] : NONE;
        }

        /** Reads one to three digits: their number, or NONE. */
        private int number() {
            int value = NONE;
            for (int digits = 0; digits < 3; digits++) {
                int digit = byteAt(behindRepeat);
                if (digit < '0' || digit > '9') {
                    break;
                }
                value = 10 * Math.max(value, 0) + digit - '0';
                behindRepeat++;
            }
            return value;
        }
    }

    /**
     * A pattern as a program of states. A state within x* that is reached before its x took a byte and one
     * that is reached behind that are two, as only the second may end that x; so no way through the states
     * comes back to one of them without taking a byte, and what follows a state hangs on the place alone.
     */
    private static final class Program {
        private static final int NEW = 0;
        private static final int ONE = 1;
        private static final int TWO = 2;

        private final int[] kinds = new int[STATE_LIMIT];
        private final int[] next = new int[STATE_LIMIT];
        private final int[] other = new int[STATE_LIMIT];
        private int count;
        private int first;
        private boolean looksAround;
        private int[] ranges = new int[32];
        private int rangesUsed;
        private int groups;
        private int width;
        private int size;
        private int flags;
        private int version;
        private int minds;
        private final int[] names = new int[(GROUP_LIMIT + 1) * NAME_LIMIT];
        private final int[] nameLength = new int[GROUP_LIMIT + 1];

        void build(Part pattern, Reader reader, int flags, int version) {
            this.flags = flags;
            this.version = version;
            groups = reader.groups;
            width = 2 * (groups + 1);
            size = pattern.size;
            minds = NEW;
            for (int k = 1; k <= groups; k++) {
                nameLength[k] = reader.nameLength[k];
                System.arraycopy(reader.text.bytes, reader.nameAt[k], names, k * NAME_LIMIT, nameLength[k]);
            }
            count = 0;
            rangesUsed = 0;
            looksAround = false;
            add(DEAD_END, 0, 0);
            int arrival = add(ARRIVAL, 0, 0);
            first = fresh(rows(pattern, pair(arrival, arrival), 0));
        }

        int nameByte(int k, int i) {
            boolean told = k >= 1 && k <= groups && i >= 0 && i < nameLength[k];
            return told ? names[k * NAME_LIMIT + i] : NONE;
        }

        /** The group of the name that stands at a place of a row, or NONE. */
        int groupNamed(Row row, int begin, int length) {
            int group = NONE;
            for (int k = 1; k <= groups && length > 0; k++) {
                boolean same = nameLength[k] == length;
                for (int i = 0; i < length && same; i++) {
                    same = names[k * NAME_LIMIT + i] == row.at(begin + i);
                }
                group = same ? k : group;
            }
            return group;
        }

        boolean isOn(int flag) {
            return (flags & flag) != 0;
        }

        boolean takes(int state) {
            return kinds[state] <= ANY_BYTE;
        }

        /** How many bytes a state takes at a place, 0 if it takes none there. */
        int bytesTaken(int state, Subject subject, int place) {
            if (kinds[state] == ANY_BYTE) {
                return place < subject.length ? 1 : 0;
            }
            int code = subject.codes[place];
            return code != NONE && has(state, code) ? subject.rests[place] : 0;
        }

        /** Tells whether a state that takes characters takes this one. */
        boolean has(int state, int code) {
            if (kinds[state] == CHARACTER) {
                return other[state] == code;
            }
            int record = other[state];
            int low = 0;
            int high = ranges[record];
            for (int turn = 0; turn < 32 && low < high; turn++) {
                int middle = low + high >>> 1;
                if (ranges[record + 2 * middle + 2] < code) {
                    low = middle + 1;
                } else {
                    high = middle;
                }
            }
            return low < ranges[record] && ranges[record + 2 * low + 1] <= code;
        }

        private int add(int kind, int nextState, int otherValue) {
            if (count >= STATE_LIMIT) {
                return 0;
            }
            kinds[count] = kind;
            next[count] = nextState;
            other[count] = otherValue;
            looksAround |= kind == ASSERTION;
            count++;
            return count - 1;
        }

        /** Two states to go on with: before the x around has taken a byte, and behind that. */
        private static long pair(int fresh, int used) {
            return (long) fresh << 32 | used;
        }

        private static int fresh(long pair) {
            return (int) (pair >> 32);
        }

        private static int used(long pair) {
            return (int) pair;
        }

        private long addPair(int kind, long onward, int value) {
            int fresh = add(kind, fresh(onward), value);
            int used = fresh(onward) == used(onward) ? fresh : add(kind, used(onward), value);
            return pair(fresh, used);
        }

        private long fork(long one, long two) {
            int fresh = add(SPLIT, fresh(one), fresh(two));
            boolean same = fresh(one) == used(one) && fresh(two) == used(two);
            return pair(fresh, same ? fresh : add(SPLIT, used(one), used(two)));
        }

        private long rows(Part group, long onward, int depth) {
            if (group.last == null || depth > DEPTH_LIMIT) {
                return onward;
            }
            long entry = row(group.last, onward, depth);
            for (Part row = group.last.before; row != null; row = row.before) {
                entry = fork(row(row, onward, depth), entry);
            }
            return entry;
        }

        private long row(Part row, long onward, int depth) {
            long entry = onward;
            for (Part part = row.last; part != null; part = part.before) {
                entry = repeated(part, entry, depth);
            }
            return entry;
        }

        private long repeated(Part part, long onward, int depth) {
            // What has no size takes nothing and holds no group: going through it a hundred times is nothing, too.
            if (part.size == 0) {
                return onward;
            }
            long entry = onward;
            if (part.most == ENDLESS) {
                entry = loop(part, onward, depth);
            } else {
                for (int i = part.least; i < part.most; i++) {
                    long through = once(part, entry, depth);
                    entry = part.lazy ? fork(onward, through) : fork(through, onward);
                }
            }
            for (int i = 0; i < part.least; i++) {
                entry = once(part, entry, depth);
            }
            return entry;
        }

        private long loop(Part part, long onward, int depth) {
            int again = add(SPLIT, 0, 0);
            int body = fresh(once(part, pair(part.onceEmpty ? 0 : again, again), depth));
            next[again] = part.lazy ? used(onward) : body;
            other[again] = part.lazy ? body : used(onward);
            if (fresh(onward) == used(onward)) {
                return pair(again, again);
            }
            int entry = part.lazy ? add(SPLIT, fresh(onward), body) : add(SPLIT, body, fresh(onward));
            return pair(entry, again);
        }

        private long once(Part part, long onward, int depth) {
            if (part.kind == GROUP && part.value == 0) {
                return rows(part, onward, depth + 1);
            }
            if (part.kind == GROUP) {
                long inside = rows(part, addPair(SAVE, onward, 2 * part.value + 1), depth + 1);
                return addPair(SAVE, inside, 2 * part.value);
            }
            if (part.kind == ASSERTION) {
                return addPair(ASSERTION, onward, part.value);
            }
            int state = add(part.kind, used(onward), part.kind == CLASS ? recordOf(part) : part.value);
            return pair(state, state);
        }

        /** Where the ranges of a class stand behind their number; copies of a part share them. */
        private int recordOf(Part part) {
            if (part.record == NONE && part.ranges != null) {
                int length = part.ranges.length;
                if (rangesUsed + length + 1 > ranges.length) {
                    ranges = Arrays.copyOf(ranges, Math.max(rangesUsed + length + 1, 2 * ranges.length));
                }
                ranges[rangesUsed] = length / 2;
                System.arraycopy(part.ranges, 0, ranges, rangesUsed + 1, length);
                part.record = rangesUsed;
                rangesUsed += length + 1;
            }
            return Math.max(part.record, 0);
        }
    }

    /** The bytes that patterns are matched in, the characters that begin at them and the assertions that are so. */
    private static final class Subject {
        private int[] bytes = new int[32];
        private int[] codes = new int[33];
        private int[] rests = new int[33];
        private int[] holding = new int[33];
        private int length;

        Subject() {
            codes[0] = NONE;
            holding[0] = holdingAt(0);
        }

        void take(Row tape) {
            length = tape.size;
            if (length > bytes.length) {
                int room = Math.max(length, Math.min(TAPE_LIMIT, 2 * bytes.length));
                bytes = new int[room];
                codes = new int[room + 1];
                rests = new int[room + 1];
                holding = new int[room + 1];
            }
            System.arraycopy(tape.items, 0, bytes, 0, length);
            int rest = 0;
            for (int at = 0; at <= length; at++) {
                codes[at] = codeAt(bytes, at, length);
                rest = codes[at] == NONE ? Math.max(rest - 1, 0) : widthOf(codes[at]);
                rests[at] = rest;
                holding[at] = holdingAt(at);
            }
        }

        boolean holds(int assertion, int place) {
            return (holding[place] >> assertion & 1) != 0;
        }

        boolean isLineFeed(int place) {
            return place >= 0 && place < length && bytes[place] == 10;
        }

        boolean isWordByte(int place) {
            return place >= 0 && place < length && isWord(bytes[place]);
        }

        private int holdingAt(int place) {
            int bits = isWordByte(place - 1) != isWordByte(place) ? 1 << AT_WORD_EDGE : 1 << OFF_WORD_EDGE;
            bits |= place == 0 ? 1 << AT_BEGIN : 0;
            bits |= place == length ? 1 << AT_END : 0;
            bits |= place == 0 || isLineFeed(place - 1) ? 1 << AT_LINE_BEGIN : 0;
            bits |= place == length || isLineFeed(place) ? 1 << AT_LINE_END : 0;
            return bits;
        }
    }

    /** Goes one way after the other and marks what was tried at each place, so that nothing is tried twice. */
    private static final class Marks {
        /** A bit for each state at each place of the longest subject. */
        private static final int MARK_LIMIT = (STATE_LIMIT + 31 >> 5) * (TAPE_LIMIT + 1);
        private static final int STACK_LIMIT = STATE_LIMIT * (TAPE_LIMIT + 1) + 1;
        private static final int STACK_LEAP = 8;

        private int[] spans = new int[SPAN_LIMIT];
        private final int[] work = new int[SPAN_LIMIT];
        private int[] marks = new int[64];
        private int words;
        private int dirtyFrom;
        private int[] stack = new int[64];
        private int depth;
        private boolean found;
        private boolean firstOnly;
        private int how;
        private Program program;
        private Subject subject;
        private long steps;

        void begin(Program program, Subject subject, int how, int from, int[] spans) {
            this.program = program;
            this.subject = subject;
            this.how = how;
            this.spans = spans;
            firstOnly = how == WHOLE || !program.isOn(LONGEST);
            words = program.count + 31 >> 5;
            dirtyFrom = from;
            int need = (subject.length + 1) * words;
            if (need > marks.length) {
                marks = new int[Math.max(need, Math.min(MARK_LIMIT, 2 * marks.length))];
            }
        }

        /**
         * The match from a place on. May be called again for places from the last match's end on: what was
         * tried behind that end led nowhere and is not tried again.
         */
        int find(int from) {
            found = false;
            int last = how == SEARCH ? subject.length : from;
            for (int start = from; start <= last && !found; start++) {
                tryFrom(start);
            }
            if (!found) {
                return NONE;
            }
            int reached = spans[1];
            if (reached < dirtyFrom) {
                Arrays.fill(marks, reached * words, (reached + 1) * words, 0);
            }
            return reached;
        }

        private void tryFrom(int start) {
            Arrays.fill(work, 0, program.width, NONE);
            work[0] = start;
            depth = 0;
            push(start << 10 | program.first);
            long most = 4L * program.count * (subject.length + 2);
            for (long turn = 0; turn < most && depth > 0 && !(found && firstOnly); turn++) {
                depth--;
                int entry = stack[depth];
                if (entry < 0) {
                    undo(work, entry);
                } else {
                    walk(entry & 1023, entry >> 10);
                }
            }
        }

        /** Goes on from a state until it ends somewhere; what else there was to try is on the stack. */
        private void walk(int begin, int beginPlace) {
            int state = begin;
            int place = beginPlace;
            int most = program.count * (subject.length + 1);
            for (int turn = 0; turn < most && mark(state, place); turn++) {
                int kind = program.kinds[state];
                int value = program.other[state];
                if (kind <= ANY_BYTE) {
                    int taken = program.bytesTaken(state, subject, place);
                    if (taken == 0) {
                        return;
                    }
                    place += taken;
                } else if (kind == SPLIT) {
                    push(place << 10 | value);
                } else if (kind == SAVE) {
                    push(undoOf(work, value));
                    work[value] = place;
                } else if (kind == ARRIVAL) {
                    arrive(place);
                    return;
                } else if (kind == DEAD_END || !subject.holds(value, place)) {
                    return;
                }
                state = program.next[state];
            }
        }

        private void arrive(int place) {
            if (how == WHOLE && place < subject.length || found && place <= spans[1]) {
                return;
            }
            System.arraycopy(work, 0, spans, 0, program.width);
            spans[1] = place;
            found = true;
        }

        /**
         * Each mark brings one entry at most, so no stack is longer than the limit. It grows by leaps, whatever
         * is at hand: so it is made anew a few times at most, even where each pattern needs a little more.
         */
        private void push(int entry) {
            if (depth >= stack.length && stack.length < STACK_LIMIT) {
                stack = Arrays.copyOf(stack, Math.min(STACK_LIMIT, STACK_LEAP * stack.length));
            }
            if (depth < stack.length) {
                stack[depth] = entry;
                depth++;
            }
        }

        /** Marks a state at a place; false if it is marked already. */
        private boolean mark(int state, int place) {
            steps++;
            if (place >= dirtyFrom) {
                Arrays.fill(marks, dirtyFrom * words, (place + 1) * words, 0);
                dirtyFrom = place + 1;
            }
            int word = place * words + (state >> 5);
            int bit = 1 << (state & 31);
            boolean isNew = (marks[word] & bit) == 0;
            marks[word] |= bit;
            return isNew;
        }
    }

    /** Runs all ways side by side, a row of threads for each place, those that come first in order ahead. */
    private static final class Threads {
        /** What takes bytes has a size of 1 at least, and may be there once more, waiting; and there is the arrival. */
        private static final int ROW_LIMIT = 2 * SIZE_LIMIT + 1;

        private int[] spans = new int[SPAN_LIMIT];
        private final int[] work = new int[SPAN_LIMIT];
        private int[] now = new int[ROW_LIMIT];
        private int[] then = new int[ROW_LIMIT];
        private int[] nowSpans = new int[ROW_LIMIT * SPAN_LIMIT];
        private int[] thenSpans = new int[ROW_LIMIT * SPAN_LIMIT];
        private int nowCount;
        private int thenCount;
        private final int[] seen = new int[2 * WAITING];
        private int stamp;
        private final int[] stack = new int[STATE_LIMIT + 1];
        private boolean found;
        private Program program;
        private Subject subject;
        private int how;
        private boolean firstOnly;
        private long steps;

        int find(Program program, Subject subject, int how, int from, int[] spans) {
            this.program = program;
            this.subject = subject;
            this.how = how;
            this.spans = spans;
            firstOnly = how != WHOLE && !program.isOn(LONGEST);
            renewStamp();
            found = false;
            thenCount = 0;
            for (int place = from; place <= subject.length; place++) {
                if (!found && (place == from || how == SEARCH)) {
                    Arrays.fill(work, 0, program.width, NONE);
                    work[0] = place;
                    follow(program.first, place);
                }
                turnRows();
                if (nowCount == 0 && (found || how != SEARCH)) {
                    break;
                }
                step(place);
            }
            return found ? spans[1] : NONE;
        }

        /** Begins a run with a stamp that nothing bears; no run takes more of them than there are places and a few. */
        private void renewStamp() {
            if (stamp > 2000000000) {
                Arrays.fill(seen, 0);
                stamp = 0;
            }
            stamp++;
        }

        /** Makes the row that was filled the one that runs, and begins a new one. */
        private void turnRows() {
            int[] row = now;
            now = then;
            then = row;
            int[] rowSpans = nowSpans;
            nowSpans = thenSpans;
            thenSpans = rowSpans;
            nowCount = thenCount;
            thenCount = 0;
            stamp++;
        }

        /**
         * Takes what is at a place by each thread. An arrival is always better than those before: it ends
         * later, and the threads that began behind the one that arrived first run no more.
         */
        private void step(int place) {
            int width = program.width;
            for (int i = 0; i < nowCount; i++) {
                steps++;
                if (found && nowSpans[i * width] > spans[0]) {
                    return;
                }
                System.arraycopy(nowSpans, i * width, work, 0, width);
                int state = now[i] & WAITING - 1;
                if (now[i] >= WAITING || program.kinds[state] != ARRIVAL) {
                    boolean waits = now[i] >= WAITING;
                    int left = waits ? subject.rests[place] : program.bytesTaken(state, subject, place);
                    if (left == 1) {
                        follow(program.next[state], place + 1);
                    } else if (left > 1) {
                        put(state + WAITING);
                    }
                } else if (how != WHOLE || place == subject.length) {
                    System.arraycopy(work, 0, spans, 0, width);
                    spans[1] = place;
                    found = true;
                    if (firstOnly) {
                        return;
                    }
                }
            }
        }

        /** Puts a state into the row of the next place, with what the work has of the groups, if it is new there. */
        private void put(int entry) {
            if (seen[entry] != stamp && thenCount < then.length) {
                seen[entry] = stamp;
                then[thenCount] = entry;
                System.arraycopy(work, 0, thenSpans, thenCount * program.width, program.width);
                thenCount++;
            }
        }

        /** Puts into the row all that a state leads to without taking a byte, in order. */
        private void follow(int begin, int place) {
            stack[0] = begin;
            int depth = 1;
            for (int turn = 0; turn < 2 * STATE_LIMIT && depth > 0; turn++) {
                depth--;
                int entry = stack[depth];
                if (entry < 0) {
                    undo(work, entry);
                } else {
                    depth = walk(entry, place, depth);
                }
            }
        }

        private int walk(int begin, int place, int beginDepth) {
            int depth = beginDepth;
            int state = begin;
            for (int turn = 0; turn < STATE_LIMIT && seen[state] != stamp; turn++) {
                steps++;
                int kind = program.kinds[state];
                int value = program.other[state];
                if (kind <= ANY_BYTE || kind == ARRIVAL) {
                    put(state);
                    return depth;
                }
                seen[state] = stamp;
                if (kind == DEAD_END || kind == ASSERTION && !subject.holds(value, place)) {
                    return depth;
                }
                if (kind == SPLIT && depth < stack.length) {
                    stack[depth] = value;
                    depth++;
                } else if (kind == SAVE && depth < stack.length) {
                    stack[depth] = undoOf(work, value);
                    depth++;
                    work[value] = place;
                }
                state = program.next[state];
            }
            return depth;
        }
    }

    /** Runs programs that are never of two minds: at no place do two of their ways take the same character. */
    private static final class OneMind {
        private int[] spans = new int[SPAN_LIMIT];
        private final int[] work = new int[SPAN_LIMIT];
        private final int[] onward = new int[SPAN_LIMIT];
        private final CharSet taken = new CharSet();
        private int[] seen = new int[0];
        private int[] cleared = new int[0];
        private int[] stack = new int[0];
        private int depth;
        private boolean found;
        private int chosen;
        private Program program;
        private Subject subject;
        private int how;
        private boolean firstOnly;
        private long steps;

        boolean suits(Program program) {
            if (program.minds == Program.NEW) {
                program.minds = isOfOneMind(program) ? Program.ONE : Program.TWO;
            }
            return program.minds == Program.ONE;
        }

        private boolean isOfOneMind(Program program) {
            this.program = program;
            if (seen.length == 0) {
                seen = new int[STATE_LIMIT];
                cleared = new int[STATE_LIMIT];
                stack = new int[STATE_LIMIT + 1];
            }
            Arrays.fill(seen, NONE);
            Arrays.fill(cleared, 0);
            boolean one = isClearFrom(program.first);
            for (int state = 0; state < program.count && one; state++) {
                int onwards = program.next[state];
                one = !program.takes(state) || cleared[onwards] != 0 || isClearFrom(onwards);
            }
            return one;
        }

        /** Tells whether no state is reached twice from one without a byte, and no two take the same. */
        private boolean isClearFrom(int begin) {
            cleared[begin] = 1;
            taken.clear();
            boolean anyByte = false;
            stack[0] = begin;
            depth = 1;
            for (int turn = 0; turn < 2 * STATE_LIMIT && depth > 0; turn++) {
                steps++;
                depth--;
                int state = stack[depth];
                int kind = program.kinds[state];
                boolean again = seen[state] == begin && kind != DEAD_END;
                boolean clashes = program.takes(state) && (anyByte || !isNewTaker(state));
                if (again || clashes) {
                    return false;
                }
                seen[state] = begin;
                anyByte |= kind == ANY_BYTE;
                if (kind == SPLIT) {
                    stack[depth] = program.other[state];
                    depth++;
                }
                if (kind == SPLIT || kind == SAVE || kind == ASSERTION) {
                    stack[depth] = program.next[state];
                    depth++;
                }
            }
            return true;
        }

        private boolean isNewTaker(int state) {
            int value = program.other[state];
            if (program.kinds[state] == ANY_BYTE) {
                return taken.count == 0;
            }
            if (program.kinds[state] == CHARACTER) {
                boolean alone = !taken.meets(value, value);
                taken.add(value, value);
                return alone;
            }
            boolean isNew = true;
            int behind = value + 2 * program.ranges[value];
            for (int i = value + 1; i < behind && isNew; i += 2) {
                isNew = !taken.meets(program.ranges[i], program.ranges[i + 1]);
                taken.add(program.ranges[i], program.ranges[i + 1]);
            }
            return isNew;
        }

        /** The match at a place, of a program that suits. */
        int find(Program program, Subject subject, int how, int from, int[] spans) {
            this.program = program;
            this.subject = subject;
            this.how = how;
            this.spans = spans;
            firstOnly = how != WHOLE && !program.isOn(LONGEST);
            found = false;
            Arrays.fill(work, 0, program.width, NONE);
            work[0] = from;
            int state = program.first;
            int place = from;
            for (int turn = 0; turn <= subject.length && state != NONE; turn++) {
                chosen = NONE;
                choose(state, place);
                state = NONE;
                if (chosen != NONE) {
                    place += program.bytesTaken(chosen, subject, place);
                    state = program.next[chosen];
                    System.arraycopy(onward, 0, work, 0, program.width);
                }
            }
            return found ? spans[1] : NONE;
        }

        /** Chooses the one state that takes what is at a place, and looks for an arrival there. */
        private void choose(int begin, int place) {
            stack[0] = begin;
            depth = 1;
            boolean over = false;
            for (int turn = 0; turn < 2 * STATE_LIMIT && depth > 0 && !over; turn++) {
                steps++;
                depth--;
                int state = stack[depth];
                if (state < 0) {
                    undo(work, state);
                } else if (program.kinds[state] == ARRIVAL) {
                    over = arrive(place);
                } else if (program.takes(state)) {
                    if (program.bytesTaken(state, subject, place) > 0) {
                        chosen = state;
                        System.arraycopy(work, 0, onward, 0, program.width);
                    }
                } else {
                    spread(state, place);
                }
            }
        }

        private void spread(int state, int place) {
            int kind = program.kinds[state];
            int value = program.other[state];
            if (kind == DEAD_END || kind == ASSERTION && !subject.holds(value, place)) {
                return;
            }
            if (kind == SPLIT) {
                stack[depth] = value;
                depth++;
            } else if (kind == SAVE) {
                stack[depth] = undoOf(work, value);
                depth++;
                work[value] = place;
            }
            stack[depth] = program.next[state];
            depth++;
        }

        /** Takes an arrival down; tells whether nothing that comes behind it in order counts. */
        private boolean arrive(int place) {
            if (how == WHOLE && place < subject.length) {
                return false;
            }
            System.arraycopy(work, 0, spans, 0, program.width);
            spans[1] = place;
            found = true;
            return firstOnly;
        }
    }

    /**
     * Tells whether there is a match at all, by sets of the program's states: each set is made when it is
     * needed, kept with what leads from it to which other, and all are forgotten when there are too many.
     */
    private static final class States {
        private static final int KEPT_LIMIT = 64;
        private static final int CUT_LIMIT = 120;
        private static final int POOL_LIMIT = 8192;

        // Signs of what stands at a place: the end, a byte within a character (1 to 3: so many are left of it),
        // an odd byte, or a character, told by the cuts that it is between.
        private static final int END_SIGN = 0;
        private static final int ODD_SIGN = 4;
        private static final int FIRST_SIGN = 5;

        // What stands ahead of a place, as bits.
        private static final int BEHIND_NOTHING = 1;
        private static final int BEHIND_LINE_FEED = 2;
        private static final int BEHIND_WORD = 4;

        private int most = 32;
        private Program program;
        private int version;
        private boolean roaming;
        private final int[] cuts = new int[CUT_LIMIT];
        private int cutCount;
        private final int[] edges = new int[KEPT_LIMIT * (CUT_LIMIT + FIRST_SIGN)];
        private final int[] pool = new int[POOL_LIMIT];
        private final int[] begins = new int[KEPT_LIMIT + 1];
        private final int[] behind = new int[KEPT_LIMIT];
        private int count;
        private final int[] seeds = new int[2 * WAITING];
        private int seedCount;
        private final int[] seen = new int[3 * WAITING];
        private int stamp;
        private final int[] stack = new int[STATE_LIMIT + 1];
        private boolean arrived;
        private long steps;

        void holdAtMost(int states) {
            most = states;
            count = 0;
        }

        /** 1 if there is a match, 0 if there is none, or GAVE_UP. */
        int tell(Program program, Subject subject, int how, int from) {
            if (!prepare(program, how == SEARCH)) {
                return GAVE_UP;
            }
            int state = firstState(subject, from);
            for (int place = from; place <= subject.length; place++) {
                steps++;
                int sign = signAt(subject, place);
                int edge = edges[state * (cutCount + FIRST_SIGN) + sign];
                if (edge == 0) {
                    edge = makeEdge(state, sign);
                }
                if ((edge & 1) != 0 && (how != WHOLE || sign == END_SIGN)) {
                    return 1;
                }
                state = (edge >> 1) - 1;
                if (!roaming && begins[state] == begins[state + 1]) {
                    return 0;
                }
            }
            return 0;
        }

        /** Makes ready for a program; false if it tells more characters apart than there is room for. */
        private boolean prepare(Program program, boolean roaming) {
            this.program = program;
            if (version != program.version) {
                version = program.version;
                findCuts();
                count = 0;
            }
            if (cutCount > CUT_LIMIT) {
                return false;
            }
            if (this.roaming != roaming) {
                this.roaming = roaming;
                count = 0;
            }
            return true;
        }

        /** Finds where characters begin to differ for the program. */
        private void findCuts() {
            cutCount = 0;
            for (int i = 0; i < FIXED_CUTS.length; i++) {
                addCut(FIXED_CUTS[i]);
            }
            for (int state = 0; state < program.count; state++) {
                if (program.kinds[state] == CHARACTER) {
                    addCut(program.other[state]);
                    addCut(program.other[state] + 1);
                }
            }
            int record = 0;
            for (int turn = 0; turn < program.rangesUsed && record < program.rangesUsed; turn++) {
                int behindRecord = record + 1 + 2 * program.ranges[record];
                for (int i = record + 1; i + 1 < behindRecord; i += 2) {
                    addCut(program.ranges[i]);
                    addCut(program.ranges[i + 1] + 1);
                }
                record = behindRecord;
            }
        }

        private void addCut(int code) {
            int at = cutCount > CUT_LIMIT ? 0 : lastCut(code) + 1;
            if (cutCount > CUT_LIMIT || at > 0 && cuts[at - 1] == code) {
                return;
            }
            if (cutCount < CUT_LIMIT) {
                System.arraycopy(cuts, at, cuts, at + 1, cutCount - at);
                cuts[at] = code;
            }
            cutCount++;
        }

        /** The last cut that is not above a character, NONE if all are. */
        private int lastCut(int code) {
            int low = 0;
            int high = cutCount;
            for (int turn = 0; turn < 32 && low < high; turn++) {
                int middle = low + high >>> 1;
                if (cuts[middle] <= code) {
                    low = middle + 1;
                } else {
                    high = middle;
                }
            }
            return low - 1;
        }

        private int signAt(Subject subject, int place) {
            if (place >= subject.length) {
                return END_SIGN;
            }
            int code = subject.codes[place];
            if (code != NONE) {
                return FIRST_SIGN + lastCut(code);
            }
            return subject.rests[place] > 0 ? subject.rests[place] : ODD_SIGN;
        }

        private int firstState(Subject subject, int from) {
            stamp++;
            seedCount = 0;
            if (!roaming) {
                addSeed(program.first);
            }
            int ahead = from == 0 ? BEHIND_NOTHING : 0;
            ahead |= subject.isLineFeed(from - 1) ? BEHIND_LINE_FEED : 0;
            ahead |= subject.isWordByte(from - 1) ? BEHIND_WORD : 0;
            return keptState(program.looksAround ? ahead : 0);
        }

        /** Makes the way on from a state by a sign: the next state and 1, twice, and 1 for an arrival. */
        private int makeEdge(int state, int sign) {
            arrived = false;
            stamp++;
            seedCount = 0;
            for (int i = begins[state]; i < begins[state + 1]; i++) {
                if (pool[i] < WAITING) {
                    follow(pool[i], behind[state], sign);
                } else {
                    addSeed(sign == 1 ? program.next[pool[i] - WAITING] : pool[i]);
                }
            }
            if (roaming) {
                follow(program.first, behind[state], sign);
            }
            int before = count;
            int target = sign == END_SIGN ? state : keptState(aheadOf(sign));
            int edge = 2 * (target + 1) + (arrived ? 1 : 0);
            // With fewer states than before all were forgotten, this one, too.
            if (count >= before) {
                edges[state * (cutCount + FIRST_SIGN) + sign] = edge;
            }
            return edge;
        }

        private int aheadOf(int sign) {
            if (!program.looksAround || sign < FIRST_SIGN) {
                return 0;
            }
            int code = cuts[sign - FIRST_SIGN];
            if (code == 10) {
                return BEHIND_LINE_FEED;
            }
            return isWord(code) ? BEHIND_WORD : 0;
        }

        /** Takes a sign by all that a state of the program leads to without a byte. */
        private void follow(int begin, int ahead, int sign) {
            stack[0] = begin;
            int depth = 1;
            for (int turn = 0; turn < 2 * STATE_LIMIT && depth > 0; turn++) {
                depth--;
                int state = stack[depth];
                if (seen[state] == stamp) {
                    continue;
                }
                steps++;
                seen[state] = stamp;
                int kind = program.kinds[state];
                if (kind <= ANY_BYTE) {
                    takeSign(state, sign);
                } else if (kind == ARRIVAL) {
                    arrived = true;
                } else if (kind != DEAD_END && (kind != ASSERTION || holds(program.other[state], ahead, sign))) {
                    stack[depth] = program.next[state];
                    depth++;
                    if (kind == SPLIT && depth < stack.length) {
                        stack[depth] = program.other[state];
                        depth++;
                    }
                }
            }
        }

        private void takeSign(int state, int sign) {
            if (program.kinds[state] == ANY_BYTE) {
                if (sign != END_SIGN) {
                    addSeed(program.next[state]);
                }
                return;
            }
            int code = sign < FIRST_SIGN ? NONE : cuts[sign - FIRST_SIGN];
            if (code != NONE && program.has(state, code)) {
                addSeed(code < 128 ? program.next[state] : state + WAITING);
            }
        }

        private boolean holds(int assertion, int ahead, int sign) {
            boolean lineFeed = sign >= FIRST_SIGN && cuts[sign - FIRST_SIGN] == 10;
            boolean word = sign >= FIRST_SIGN && isWord(cuts[sign - FIRST_SIGN]);
            boolean behindWord = (ahead & BEHIND_WORD) != 0;
            switch (assertion) {
                case AT_BEGIN: return (ahead & BEHIND_NOTHING) != 0;
                case AT_END: return sign == END_SIGN;
                case AT_LINE_BEGIN: return (ahead & (BEHIND_NOTHING | BEHIND_LINE_FEED)) != 0;
                case AT_LINE_END: return sign == END_SIGN || lineFeed;
                case AT_WORD_EDGE: return behindWord != word;
                default: return behindWord == word;
            }
        }

        private void addSeed(int entry) {
            if (seen[WAITING + entry] != stamp && seedCount < seeds.length) {
                seen[WAITING + entry] = stamp;
                seeds[seedCount] = entry;
                seedCount++;
            }
        }

        /** The state that has the seeds, kept from before or made now. */
        private int keptState(int ahead) {
            for (int state = 0; state < count; state++) {
                if (behind[state] == ahead && hasSeeds(state)) {
                    return state;
                }
            }
            if (count >= most || begins[count] + seedCount > POOL_LIMIT) {
                count = 0;
            }
            System.arraycopy(seeds, 0, pool, begins[count], seedCount);
            begins[count + 1] = begins[count] + seedCount;
            behind[count] = ahead;
            int signs = cutCount + FIRST_SIGN;
            Arrays.fill(edges, count * signs, (count + 1) * signs, 0);
            count++;
            return count - 1;
        }

        private boolean hasSeeds(int state) {
            boolean same = begins[state + 1] - begins[state] == seedCount;
            for (int i = 0; i < seedCount && same; i++) {
                same = pool[begins[state] + i] == seeds[i];
            }
            return same;
        }
    }
}
