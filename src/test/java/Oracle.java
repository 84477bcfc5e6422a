import java.nio.charset.StandardCharsets;
import java.util.ArrayList;
import java.util.Arrays;
import java.util.HashMap;
import java.util.HashSet;
import java.util.List;
import java.util.Map;
import java.util.Set;
import java.util.regex.Pattern;

/** The document's JUDGING once more, written with the whole Java library and on other lines than the class. */
final class Oracle {
    private static final class Broken extends RuntimeException {
        private static final long serialVersionUID = 1L;
        final int rule;
        final int place;

        Broken(int rule, int place) {
            super(null, null, false, false);
            this.rule = rule;
            this.place = place;
        }
    }

    private record Entry(int tag, int kind, int one, int two, String text) { }

    private record Jump(int op, List<Long> targets) { }

    private static final String PART = "[^.;\\[/]+";
    private static final String CLASS = PART + "(?:/" + PART + ")*";
    private static final String TYPE = "\\[{0,255}(?:[BCDFIJSZ]|L" + CLASS + ";)";
    private static final Pattern FIELD_NAME = Pattern.compile(PART);
    private static final Pattern MEMBER_NAME = Pattern.compile("[^.;\\[/<>]+|<init>|<clinit>");
    private static final Pattern CLASS_NAME = Pattern.compile(CLASS);
    private static final Pattern FIELD_TYPE = Pattern.compile(TYPE);
    private static final Pattern METHOD_TYPE = Pattern.compile("\\((?:" + TYPE + ")*\\)(?:" + TYPE + "|V)");
    private static final Pattern CHARACTER = Pattern.compile(
        "[\\x01-\\x7f]|[\\xc0-\\xdf][\\x80-\\xbf]|[\\xe0-\\xef][\\x80-\\xbf]{2}");

    private final byte[] bytes;
    private final Map<Integer, Entry> pool = new HashMap<>();
    private int next;
    int rule;
    int place = -1;
    final int[] read = new int[7];

    private Oracle(byte[] bytes) {
        this.bytes = bytes;
        try {
            judgeAll();
        } catch (Broken b) {
            rule = b.rule;
            place = b.place;
        }
    }

    static Oracle judged(byte[] bytes) {
        return new Oracle(bytes);
    }

    /** What shrink leaves. */
    static byte[] shrunk(byte[] bytes) {
        int rule = judged(bytes).rule;
        byte[] left = bytes;
        if (rule == 0) {
            return left;
        }
        for (int n : new int[] {32, 16, 8, 4, 2, 1}) {
            int length = left.length;
            for (int p = length - n; p >= 0; p--) {
                if (p + n > left.length) {
                    continue;
                }
                byte[] tried = new byte[left.length - n];
                System.arraycopy(left, 0, tried, 0, p);
                System.arraycopy(left, p + n, tried, p, tried.length - p);
                if (judged(tried).rule == rule) {
                    left = tried;
                }
            }
        }
        return left;
    }

    private static void must(boolean holds, int rule, int place) {
        if (!holds) {
            throw new Broken(rule, place);
        }
    }

    private long u(int width) {
        long value = 0;
        for (int i = 0; i < width; i++) {
            must(next < bytes.length, 1, bytes.length);
            value = value * 256 + (bytes[next++] & 0xFF);
        }
        return value;
    }

    private int u2() {
        return (int) u(2);
    }

    private byte[] take(long n) {
        must(n <= bytes.length - next, 1, bytes.length);
        byte[] taken = Arrays.copyOfRange(bytes, next, next + (int) n);
        next += (int) n;
        return taken;
    }

    private boolean is(int number, int kind) {
        return pool.containsKey(number) && pool.get(number).kind == kind;
    }

    private boolean isText(int number, Pattern pattern) {
        return is(number, 1) && pattern.matcher(pool.get(number).text).matches();
    }

    private void judgeAll() {
        must(u(4) == 0xCAFEBABEL, 2, 0);
        u(2);
        int major = u2();
        must(major >= 45 && major <= 69, 3, 6);
        judgePool(u2());
        int flagsPlace = next;
        int flags = u2();
        must((flags & 0x200) == 0 || ((flags & 0x400) != 0 && (flags & 0x10) == 0), 11, flagsPlace);
        must((flags & 0x410) != 0x410, 11, flagsPlace);
        classNumber();
        classNumber();
        Set<Integer> interfaces = new HashSet<>();
        for (int n = u2(); n > 0; n--) {
            int where = next;
            must(interfaces.add(classNumber()), 13, where);
        }
        judgeFields();
        judgeMethods();
        for (int n = u2(); n > 0; n--) {
            attributeName();
            take(u(4));
            read[5]++;
        }
        must(next == bytes.length, 28, next);
    }

    private int classNumber() {
        int where = next;
        int number = u2();
        must(is(number, 7), 12, where);
        return number;
    }

    private void judgePool(int count) {
        must(count != 0, 4, 8);
        int number = 1;
        while (number < count) {
            Entry entry = entry();
            if (entry.kind == 5 && number + 1 >= count) {
                read[0]++;
                throw new Broken(7, entry.tag);
            }
            pool.put(number, entry);
            int takes = entry.kind == 5 ? 2 : 1;
            read[0] += takes;
            number += takes;
        }
        for (int i = 1; i < count; i++) {
            Entry e = pool.get(i);
            if (e == null) {
                continue;
            }
            boolean fits = switch (e.kind) {
                case 7, 8 -> is(e.one, 1);
                case 10 -> is(e.one, 7) && is(e.two, 12);
                case 12 -> is(e.one, 1) && is(e.two, 1);
                default -> true;
            };
            must(fits, 8, e.tag);
        }
        for (int i = 1; i < count; i++) {
            Entry e = pool.get(i);
            if (e != null && e.kind == 7) {
                must(isText(e.one, CLASS_NAME), 9, e.tag);
            }
            if (e != null && e.kind == 12) {
                must(isText(e.one, MEMBER_NAME), 9, e.tag);
                must(isText(e.two, METHOD_TYPE), 10, e.tag);
            }
        }
    }

    private Entry entry() {
        int tag = next;
        int kind = (int) u(1);
        switch (kind) {
            case 1:
                String text = new String(take(u(2)), StandardCharsets.ISO_8859_1);
                var matcher = CHARACTER.matcher(text);
                int good = 0;
                while (good < text.length() && matcher.region(good, text.length()).lookingAt()) {
                    good = matcher.end();
                }
                must(good == text.length(), 6, tag + 3 + good);
                return new Entry(tag, kind, 0, 0, text);
            case 3:
                u(4);
                return new Entry(tag, kind, 0, 0, null);
            case 5:
                u(4);
                u(4);
                return new Entry(tag, kind, 0, 0, null);
            case 7, 8:
                return new Entry(tag, kind, u2(), 0, null);
            case 10, 12:
                return new Entry(tag, kind, u2(), u2(), null);
            default:
                throw new Broken(5, tag);
        }
    }

    private String attributeName() {
        int where = next;
        int number = u2();
        must(is(number, 1), 15, where);
        return pool.get(number).text;
    }

    private void judgeFields() {
        Set<String> stood = new HashSet<>();
        for (int n = u2(); n > 0; n--) {
            int start = next;
            int flags = u2();
            must(Integer.bitCount(flags & 7) < 2 && (flags & 0x50) != 0x50, 14, start);
            int name = u2();
            must(isText(name, FIELD_NAME), 15, start + 2);
            int number = u2();
            must(isText(number, FIELD_TYPE), 16, start + 4);
            String type = pool.get(number).text;
            read[6] = Math.max(read[6], type.length() - type.replaceAll("^\\[+", "").length());
            // A TEXT has no byte 0, so it parts the two.
            must(stood.add(pool.get(name).text + "\0" + type), 17, start + 2);
            for (int k = u2(); k > 0; k--) {
                int where = next;
                String attribute = attributeName();
                byte[] body = take(u(4));
                if (attribute.equals("ConstantValue")) {
                    must(body.length == 2, 18, where);
                    int value = (body[0] & 0xFF) * 256 + (body[1] & 0xFF);
                    boolean isInt = Set.of("I", "S", "B", "C", "Z").contains(type) && is(value, 3);
                    must(isInt || (type.equals("J") && is(value, 5)), 18, where);
                }
                read[5]++;
            }
            read[1]++;
        }
    }

    private void judgeMethods() {
        Set<String> stood = new HashSet<>();
        for (int n = u2(); n > 0; n--) {
            int start = next;
            int flags = u2();
            must(Integer.bitCount(flags & 7) < 2, 14, start);
            must((flags & 0x400) == 0 || (flags & 0x1A) == 0, 14, start);
            int name = u2();
            must(isText(name, MEMBER_NAME), 15, start + 2);
            int type = u2();
            must(isText(type, METHOD_TYPE), 16, start + 4);
            must(stood.add(pool.get(name).text + "\0" + pool.get(type).text), 17, start + 2);
            int codes = 0;
            for (int k = u2(); k > 0; k--) {
                int where = next;
                boolean isCode = attributeName().equals("Code");
                must(!isCode || codes == 0, 19, where);
                long length = u(4);
                int begin = next;
                take(length);
                if (isCode) {
                    codes++;
                    judgeCode(where, begin, next);
                }
                read[5]++;
            }
            boolean empty = (flags & 0x500) != 0;
            must(empty ? codes == 0 : codes == 1, 21, start);
            read[2]++;
        }
    }

    /** Reads a CODE on its own, as a file that ends where the attribute does. */
    private void judgeCode(int name, int begin, int end) {
        int resume = next;
        next = begin;
        u2Within(end, name);
        int locals = u2Within(end, name);
        int lengthPlace = next;
        long length = u4Within(end, name);
        must(length >= 1 && length <= 64, 22, lengthPlace);
        int base = next;
        within(length, end, name);
        next += (int) length;
        int[][] handlers = new int[u2Within(end, name)][];
        int handlersPlace = next;
        for (int i = 0; i < handlers.length; i++) {
            handlers[i] = new int[] {u2Within(end, name), u2Within(end, name), u2Within(end, name),
                u2Within(end, name)};
        }
        for (int k = u2Within(end, name); k > 0; k--) {
            within(2, end, name);
            attributeName();
            long size = u4Within(end, name);
            within(size, end, name);
            next += (int) size;
            read[5]++;
        }
        must(next == end, 20, name);
        next = resume;
        int instructions = judgeInstructions(base, (int) length, locals, handlers, handlersPlace);
        read[3] += instructions;
        read[4] += handlers.length;
    }

    private void within(long n, int end, int name) {
        must(n <= end - next, 20, name);
    }

    private int u2Within(int end, int name) {
        within(2, end, name);
        return u2();
    }

    private long u4Within(int end, int name) {
        within(4, end, name);
        return u(4);
    }

    private int judgeInstructions(int base, int length, int locals, int[][] handlers, int handlersPlace) {
        List<Integer> starts = new ArrayList<>();
        List<Jump> jumps = new ArrayList<>();
        int[] code = new int[length];
        for (int i = 0; i < length; i++) {
            code[i] = bytes[base + i] & 0xFF;
        }
        int op = 0;
        while (op < length) {
            starts.add(op);
            try {
                op = instruction(code, op, locals, jumps);
            } catch (ArrayIndexOutOfBoundsException cutOff) {
                throw new Broken(23, base + op);
            } catch (IllegalArgumentException noOp) {
                throw new Broken(23, base + op);
            } catch (IllegalStateException badOperand) {
                throw new Broken(24, base + op);
            }
        }
        for (Jump jump : jumps) {
            for (long target : jump.targets) {
                must(target >= 0 && target < length && starts.contains((int) target), 25, base + jump.op);
            }
        }
        int last = starts.get(starts.size() - 1);
        must(Set.of(167, 170, 172, 177, 191).contains(code[last]), 26, base + last);
        for (int i = 0; i < handlers.length; i++) {
            int[] h = handlers[i];
            boolean fits = starts.contains(h[0]) && (h[1] == length || starts.contains(h[1])) && starts.contains(h[2])
                && h[0] < h[1] && (h[3] == 0 || is(h[3], 7));
            must(fits, 27, handlersPlace + 8 * i);
        }
        return starts.size();
    }

    /** The place behind the instruction; an operand that is not so is told after all its bytes were seen. */
    private int instruction(int[] code, int op, int locals, List<Jump> jumps) {
        boolean fits = true;
        int end;
        switch (code[op]) {
            case 0, 1, 3, 87, 96, 172, 177, 191:
                end = op + 1;
                break;
            case 16:
                end = op + 2;
                break;
            case 17:
                end = op + 3;
                break;
            case 18:
                fits = is(code[op + 1], 3) || is(code[op + 1], 8);
                end = op + 2;
                break;
            case 21, 54:
                fits = code[op + 1] < locals;
                end = op + 2;
                break;
            case 132:
                fits = code[op + 1] < locals;
                end = op + 3;
                break;
            case 153, 167:
                int by = (code[op + 1] ^ 0x80) * 256 + code[op + 2] - 0x8000;
                jumps.add(new Jump(op, List.of((long) op + by)));
                end = op + 3;
                break;
            case 184:
                fits = is(code[op + 1] * 256 + code[op + 2], 10);
                end = op + 3;
                break;
            case 196:
                fits = code[op + 2] * 256 + code[op + 3] < locals;
                if (code[op + 1] == 132) {
                    end = op + 6;
                } else if (code[op + 1] == 21 || code[op + 1] == 54) {
                    end = op + 4;
                } else {
                    throw new IllegalArgumentException();
                }
                break;
            case 170:
                end = table(code, op, jumps);
                break;
            default:
                throw new IllegalArgumentException();
        }
        if (end > code.length) {
            throw new ArrayIndexOutOfBoundsException();
        }
        if (!fits) {
            throw new IllegalStateException();
        }
        return end;
    }

    private static int table(int[] code, int op, List<Jump> jumps) {
        int p = op + 1;
        while (p % 4 != 0) {
            p++;
        }
        List<Long> targets = new ArrayList<>();
        targets.add(op + s4(code, p));
        long low = s4(code, p + 4);
        long high = s4(code, p + 8);
        if (low > high || high - low >= 8) {
            throw new IllegalArgumentException();
        }
        p += 12;
        for (long i = low; i <= high; i++) {
            targets.add(op + s4(code, p));
            p += 4;
        }
        jumps.add(new Jump(op, targets));
        return p;
    }

    private static long s4(int[] code, int p) {
        return (int) ((long) code[p] << 24 | code[p + 1] << 16 | code[p + 2] << 8 | code[p + 3]);
    }
}
