import java.io.ByteArrayOutputStream;
import java.util.ArrayList;
import java.util.Arrays;
import java.util.List;
import java.util.Map;

/** An object of the works as the document's promises tell it, in the plainest way; the ways are the oracle's. */
final class Model {
    private static final int NONE = -1;
    private byte[] ready = new byte[20];
    private byte[] tape = {};
    private final Oracle[] slots = new Oracle[6];
    private final int[] flags = new int[6];
    private byte[] subject = {};
    private byte[] output = {};
    private int fault = 0;
    private int place = NONE;
    private int[] latest = null;
    private int latestGroups = 0;
    private List<int[]> found = new ArrayList<>();
    private List<int[]> pieces = new ArrayList<>();

    void feed(int... five) {
        for (int i = 0; i < 20; i++) {
            ready[i] = (byte) (five[i / 4] >> 24 - 8 * (i % 4));
        }
    }

    int end(int n) {
        if (n < 0 || n > 20 || tape.length + n > 2000) {
            return NONE;
        }
        int before = tape.length;
        tape = Arrays.copyOf(tape, before + n);
        System.arraycopy(ready, 0, tape, before, n);
        ready = new byte[20];
        return tape.length;
    }

    private byte[] takeTape() {
        byte[] taken = tape;
        tape = new byte[0];
        return taken;
    }

    private static IllegalArgumentException refusal() {
        return new IllegalArgumentException();
    }

    int compile(int slot, int on) {
        if (slot < 0 || slot > 5 || on < 0 || on > 31) {
            throw refusal();
        }
        fault = 0;
        place = NONE;
        try {
            slots[slot] = new Oracle(takeTape(), on);
        } catch (Oracle.Fault told) {
            fault = told.kind;
            place = told.place;
            throw refusal();
        }
        flags[slot] = on;
        return slots[slot].groups;
    }

    int fault(int what) {
        return what == 0 ? fault : what == 1 ? place : NONE;
    }

    private Oracle at(int slot) {
        return slot < 0 || slot > 5 ? null : slots[slot];
    }

    private Oracle patternAt(int slot) {
        if (at(slot) == null) {
            throw refusal();
        }
        at(slot).subject(subject);
        return at(slot);
    }

    int about(int slot, int what) {
        if (at(slot) == null || what < 0 || what > 2) {
            return NONE;
        }
        return what == 0 ? at(slot).groups : what == 1 ? (int) at(slot).size : flags[slot];
    }

    int name(int slot, int k, int i) {
        if (at(slot) != null) {
            for (Map.Entry<String, Integer> name : at(slot).names.entrySet()) {
                if (name.getValue() == k && i >= 0 && i < name.getKey().length()) {
                    return name.getKey().charAt(i);
                }
            }
        }
        return NONE;
    }

    int subject() {
        subject = takeTape();
        return subject.length;
    }

    int match(int slot, int how, int machine, int from) {
        if (at(slot) == null || how < 0 || how > 2 || machine < 0 || machine > 4 || from < 0 || from > subject.length) {
            throw refusal();
        }
        latest = patternAt(slot).match(how, from);
        latest = latest == null ? null : latest.clone();
        latestGroups = slots[slot].groups;
        return latest == null ? NONE : latest[1];
    }

    int group(int k, int which) {
        return latest == null || k < 0 || k > latestGroups || which < 0 || which > 1 ? NONE : latest[2 * k + which];
    }

    int all(int slot) {
        found = patternAt(slot).allMatches();
        return found.size();
    }

    int found(int i, int which) {
        return pair(found, i, which);
    }

    private static int pair(List<int[]> pairs, int i, int which) {
        return i < 0 || i >= pairs.size() || which < 0 || which > 1 ? NONE : pairs.get(i)[which];
    }

    int replace(int slot) {
        Oracle pattern = patternAt(slot);
        String template = new String(takeTape(), java.nio.charset.StandardCharsets.ISO_8859_1);
        fill(pattern, template, null, new ByteArrayOutputStream());
        ByteArrayOutputStream made = new ByteArrayOutputStream();
        int from = 0;
        for (int[] match : pattern.allMatches()) {
            made.write(subject, from, match[0] - from);
            fill(pattern, template, match, made);
            from = match[1];
        }
        made.write(subject, from, subject.length - from);
        if (made.size() > 6000) {
            throw refusal();
        }
        output = made.toByteArray();
        return output.length;
    }

    /** Writes the template with a match's groups, or with none only looks at it. */
    private void fill(Oracle pattern, String template, int[] match, ByteArrayOutputStream made) {
        for (int i = 0; i < template.length(); i++) {
            char item = template.charAt(i);
            if (item != '$') {
                made.write(item);
                continue;
            }
            i++;
            char next = i < template.length() ? template.charAt(i) : ' ';
            int group = NONE;
            if (next == '$') {
                made.write('$');
                continue;
            } else if (next >= '0' && next <= '9') {
                group = next - '0';
            } else if (next == '{' && template.indexOf('}', i) > 0) {
                group = pattern.names.getOrDefault(template.substring(i + 1, template.indexOf('}', i)), NONE);
                i = template.indexOf('}', i);
            }
            if (group == NONE || group > pattern.groups) {
                throw refusal();
            }
            if (match != null && match[2 * group] != NONE) {
                made.write(subject, match[2 * group], match[2 * group + 1] - match[2 * group]);
            }
        }
    }

    int split(int slot) {
        List<int[]> matches = patternAt(slot).allMatches();
        pieces = new ArrayList<>();
        int from = 0;
        for (int[] match : matches) {
            boolean nothing = match[0] == match[1];
            if (!nothing || match[0] != 0 && match[0] != subject.length) {
                pieces.add(new int[] {from, match[0]});
                from = match[1];
            }
        }
        pieces.add(new int[] {from, subject.length});
        return pieces.size();
    }

    int piece(int i, int which) {
        return pair(pieces, i, which);
    }

    int which(int bits, boolean whole) {
        int answer = 0;
        for (int slot = 0; slot < 6; slot++) {
            if ((bits >> slot & 1) == 1 && at(slot) != null && patternAt(slot).match(whole ? 2 : 0, 0) != null) {
                answer |= 1 << slot;
            }
        }
        return answer;
    }

    int quote() {
        ByteArrayOutputStream made = new ByteArrayOutputStream();
        for (byte item : takeTape()) {
            if (item >= 0 && !Character.isLetterOrDigit(item) && item != '_') {
                made.write('\\');
            }
            made.write(item);
        }
        output = made.toByteArray();
        return output.length;
    }

    int output(int i) {
        return i < 0 || i >= output.length ? NONE : output[i] & 255;
    }

    void keep(int states) {
        if (states < 4 || states > 64) {
            throw refusal();
        }
    }

    int over() {
        return 0;
    }
}
