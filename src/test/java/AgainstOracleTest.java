import java.util.ArrayList;
import java.util.Arrays;
import java.util.List;
import java.util.Random;

/** Classes that are nearly right, changed by the calls of the face, and each answer beside the oracle's. */
public final class AgainstOracleTest {
    private static final int CLASSES = 12000;
    private static final int CHANGES = 4;
    private static final int MOST_LOOKS = 300;
    private static final String[] TEXTS = {"A", "B", "m", "n", "x/y", "<init>", "<clinit>", "()V", "(I)V", "(ILA;[J)I",
        "([[B)LA/B;", "Code", "Code", "ConstantValue", "I", "J", "S", "Z", "[I", "[[[LA;", "LA/B;", "D",
        "\u00c3\u00a9", "\u00e1\u0080\u00bf", "(La)b;)V", "(LA;LB;)V"};
    private static final String[] ODD_TEXTS = {"", "a/", "/a", "a//b", "a.b", "<x>", "L;", "LA", "[", "V", "(V)V", "()",
        "()VV", "(I", "\u00c3", "\u0080", "\u00e1\u0080", "II", "a;b", "[V", "L/a;", "()[V", "(L;)V", "\0"};

    private final Random random = new Random(20261115);
    private final Checks checks = new Checks();
    private final int[] seen = new int[29];
    private final List<Integer> kinds = new ArrayList<>();
    private final List<String> texts = new ArrayList<>();

    public static void main(String[] args) {
        new AgainstOracleTest().run();
    }

    private void run() {
        for (int i = 0; i < CLASSES; i++) {
            follow("class " + i, shape());
        }
        for (int rule = 0; rule < seen.length; rule++) {
            checks.due("RULE " + rule + " was seen at least 20 times", seen[rule] >= 20);
        }
        checks.finish("AgainstOracleTest");
    }

    private boolean chance(int percent) {
        return random.nextInt(100) < percent;
    }

    private void follow(String name, Shape shape) {
        ClassShape x = shape.load();
        // The bytes are kept beside the object: asking it for each would take more calls than it has.
        byte[] bytes = Arrays.copyOf(shape.toBytes(), x.count(0));
        compare(name, x, bytes);
        for (int i = 0; i < CHANGES && bytes.length > 0; i++) {
            bytes = change(x, bytes);
            compare(name + " changed " + i, x, bytes);
        }
        if (chance(4)) {
            compareShrink(name, x, bytes);
        }
    }

    private byte[] change(ClassShape x, byte[] bytes) {
        int place = random.nextInt(bytes.length);
        int n = 1 + random.nextInt(Math.min(4, bytes.length - place));
        switch (random.nextInt(6)) {
            case 0:
                checks.due("cut", x.cut(place, n), bytes.length - n);
                return joined(Arrays.copyOf(bytes, place), Arrays.copyOfRange(bytes, place + n, bytes.length));
            case 1:
                boolean fits = bytes.length + n <= 400;
                checks.due("twice", x.twice(place, n), fits ? bytes.length + n : ClassShape.FULL);
                return !fits ? bytes
                    : joined(Arrays.copyOf(bytes, place + n), Arrays.copyOfRange(bytes, place, bytes.length));
            case 2:
                return patched(x, bytes, place, random.nextInt(256));
            case 3:
                return patched(x, bytes, place, bytes[place] ^ 1 << random.nextInt(8));
            default:
                return patched(x, bytes, place, bytes[place] + (chance(50) ? 1 : -1));
        }
    }

    private static byte[] joined(byte[] first, byte[] second) {
        byte[] both = Arrays.copyOf(first, first.length + second.length);
        System.arraycopy(second, 0, both, first.length, second.length);
        return both;
    }

    private byte[] patched(ClassShape x, byte[] bytes, int place, int value) {
        checks.due("patch", x.patch(place, value), bytes[place] & 0xFF);
        byte[] changed = bytes.clone();
        changed[place] = (byte) value;
        return changed;
    }

    private void compare(String name, ClassShape x, byte[] bytes) {
        Oracle want = Oracle.judged(bytes);
        int rule = x.judge();
        seen[want.rule]++;
        checks.due(name + ": judge", rule, want.rule);
        compareJudging(name, x, want);
    }

    private void compareJudging(String name, ClassShape x, Oracle want) {
        checks.due(name + ": place", x.place(), want.place);
        for (int i = 0; i < want.read.length; i++) {
            checks.due(name + ": read(" + i + ") of RULE " + want.rule, x.read(i), want.read[i]);
        }
    }

    private void compareShrink(String name, ClassShape x, byte[] before) {
        byte[] want = Oracle.shrunk(before);
        int judgings = x.count(2);
        checks.due(name + ": shrink", x.shrink(), before.length - want.length);
        compareJudging(name + " shrunk", x, Oracle.judged(want));
        checks.due(name + ": shrink's judgings", x.count(2), judgings);
        for (int i = 0; i < Math.min(want.length, MOST_LOOKS); i++) {
            checks.due(name + " shrunk: at(" + i + ")", x.at(i), want[i] & 0xFF);
        }
    }

    private Shape shape() {
        kinds.clear();
        texts.clear();
        Shape entries = entries();
        int flags = chance(95) ? new int[] {0, 1, 0x10, 0x400, 0x600, 0x21}[random.nextInt(6)] : random.nextInt(0x800);
        Shape shape = Shape.head(kinds.size() + (chance(3) ? random.nextInt(3) : 1)).all(entries);
        shape.u2(flags, pick(7), pick(7));
        interfaces(shape);
        int fields = random.nextInt(3);
        shape.u2(fields);
        for (int i = 0; i < fields; i++) {
            field(shape);
        }
        int methods = random.nextInt(4);
        shape.u2(methods);
        for (int i = 0; i < methods; i++) {
            method(shape);
        }
        attributes(shape, random.nextInt(4) == 0 ? 1 : 0);
        return shape.u1(new int[chance(3) ? 1 : 0]);
    }

    private void interfaces(Shape shape) {
        int interfaces = chance(70) ? 0 : random.nextInt(3);
        shape.u2(interfaces);
        for (int i = 0; i < interfaces; i++) {
            shape.u2(pick(7));
        }
    }

    private Shape entries() {
        Shape entries = new Shape();
        for (int i = 0; i < TEXTS.length; i++) {
            if (chance(i < 3 || i == 7 || i == 11 || i == 14 ? 99 : 35)) {
                add(1, TEXTS[i]);
                entries.text(TEXTS[i]);
            }
        }
        if (chance(15)) {
            String odd = ODD_TEXTS[random.nextInt(ODD_TEXTS.length)];
            add(1, odd);
            entries.text(odd);
        }
        for (int kind : new int[] {7, 7, 3, 5, 8, 12, 10, 7, 5}) {
            if (chance(kind == 7 || kind == 12 ? 95 : 60)) {
                entry(entries, kind);
            }
        }
        return entries;
    }

    private void entry(Shape entries, int kind) {
        add(kind, null);
        entries.u1(kind);
        switch (kind) {
            case 3:
                entries.u4(random.nextInt());
                break;
            case 5:
                entries.u4(random.nextInt(), 7);
                add(0, null);
                break;
            case 7:
                entries.u2(pickText("A", "B", "m", "x/y", "n"));
                break;
            case 8:
                entries.u2(pick(1));
                break;
            case 10:
                entries.u2(pick(7), pick(12));
                break;
            default:
                entries.u2(memberName(), methodType());
                break;
        }
    }

    private void add(int kind, String text) {
        kinds.add(kind);
        texts.add(text);
    }

    /** The number of an entry of a kind, now and then of another. */
    private int pick(int kind) {
        List<Integer> numbers = new ArrayList<>();
        for (int i = 0; i < kinds.size(); i++) {
            if (kinds.get(i) == kind) {
                numbers.add(i + 1);
            }
        }
        if (numbers.isEmpty() || random.nextInt(150) == 0) {
            return random.nextInt(kinds.size() + 2);
        }
        return numbers.get(random.nextInt(numbers.size()));
    }

    private int pickText(String... wanted) {
        List<Integer> numbers = new ArrayList<>();
        for (int i = 0; i < texts.size(); i++) {
            for (String want : wanted) {
                if (want.equals(texts.get(i))) {
                    numbers.add(i + 1);
                }
            }
        }
        return numbers.isEmpty() || random.nextInt(150) == 0 ? pick(1) : numbers.get(random.nextInt(numbers.size()));
    }

    private int memberName() {
        return pickText("A", "B", "m", "n", "<init>", "<clinit>", "Code", "I", "\u00c3\u00a9");
    }

    private int methodType() {
        return pickText("()V", "(I)V", "(ILA;[J)I", "([[B)LA/B;", "(La)b;)V", "(LA;LB;)V");
    }

    private void field(Shape shape) {
        int flags = chance(96) ? new int[] {0, 1, 2, 4, 0x10, 0x40, 0x12}[random.nextInt(7)] : random.nextInt(0x100);
        int type = pickText("I", "J", "S", "Z", "[I", "[[[LA;", "LA/B;", "D");
        shape.u2(flags, pickText("A", "B", "m", "n", "<init>", "I", "J"), type);
        boolean isNumber = type <= texts.size() && type > 0 && "IJSZ".contains(texts.get(type - 1) + "");
        if (chance(isNumber ? 50 : 4)) {
            boolean isLong = "J".equals(texts.get(Math.max(0, type - 1)));
            shape.u2(1, pickText("ConstantValue")).u4(2).u2(pick(isLong ? 5 : 3));
        } else {
            attributes(shape, chance(20) ? 1 : 0);
        }
    }

    private void attributes(Shape shape, int number) {
        shape.u2(number);
        for (int i = 0; i < number; i++) {
            int length = chance(97) ? random.nextInt(4) : random.nextInt();
            shape.u2(pickText("A", "B", "m", "n")).u4(length).u1(new int[length & 3]);
        }
    }

    private void method(Shape shape) {
        boolean empty = chance(15);
        int flags = new int[] {0, 1, 2, 4, 8, 0x10}[random.nextInt(6)];
        if (empty) {
            flags = chance(50) ? 0x400 : 0x100 | flags;
        }
        if (chance(3)) {
            flags = random.nextInt(0x800);
        }
        shape.u2(flags, memberName(), methodType());
        int codes = (empty ? 0 : 1) + (chance(2) ? 1 : 0);
        boolean another = chance(10);
        shape.u2(codes + (another ? 1 : 0));
        for (int i = 0; i < codes; i++) {
            code(shape);
        }
        if (another) {
            shape.u2(pickText("A", "ConstantValue", "n")).u4(1).u1(7);
        }
    }

    private void code(Shape shape) {
        int locals = random.nextInt(4);
        List<Integer> starts = new ArrayList<>();
        Shape instructions = instructions(locals, starts);
        Shape code = new Shape().u2(random.nextInt(4), locals).u4(instructions.size()).all(instructions);
        int handlers = chance(60) ? 0 : 1 + random.nextInt(2);
        code.u2(handlers);
        for (int i = 0; i < handlers; i++) {
            int a = random.nextInt(starts.size());
            int b = a + 1 + random.nextInt(starts.size() - a);
            int end = b >= starts.size() ? instructions.size() : starts.get(b);
            int handler = starts.get(random.nextInt(starts.size()));
            code.u2(chance(96) ? starts.get(a) : end, chance(96) ? end : end + 1, chance(96) ? handler : end,
                chance(50) ? 0 : pick(7));
        }
        attributes(code, chance(20) ? 1 : 0);
        shape.u2(pickText("Code")).u4(code.size() + (chance(3) ? random.nextInt(3) - 1 : 0)).all(code);
    }

    private Shape instructions(int locals, List<Integer> starts) {
        Shape code = new Shape();
        int number = random.nextInt(6);
        for (int i = 0; i < number; i++) {
            starts.add(code.size());
            instruction(code, locals, starts);
        }
        starts.add(code.size());
        if (chance(15)) {
            jump(code, 167, starts);
        } else if (chance(10)) {
            table(code, starts);
        } else {
            code.u1(new int[] {172, 177, 191, 177, 177, 177, 177, 177, 177, 177, 177, 0}[random.nextInt(12)]);
        }
        return code;
    }

    private void instruction(Shape code, int locals, List<Integer> starts) {
        int local = locals == 0 || chance(2) ? locals : random.nextInt(locals);
        switch (random.nextInt(12)) {
            case 0:
                code.u1(16, random.nextInt(256));
                break;
            case 1:
                code.u1(17).u2(random.nextInt(65536));
                break;
            case 2:
                code.u1(18, pick(chance(50) ? 3 : 8));
                break;
            case 3:
                localOp(code, locals, local);
                break;
            case 4:
                code.u1(184).u2(pick(10));
                break;
            case 5:
                jump(code, 153, starts);
                break;
            case 6:
                jump(code, 167, starts);
                break;
            case 7:
                if (chance(30)) {
                    table(code, starts);
                } else {
                    code.u1(191);
                }
                break;
            default:
                code.u1(new int[] {0, 1, 3, 87, 96, 172, 177, 191}[random.nextInt(8)]);
                break;
        }
    }

    private void localOp(Shape code, int locals, int local) {
        if (locals == 0 && chance(95)) {
            code.u1(3);
            return;
        }
        int op = new int[] {21, 54, 132}[random.nextInt(3)];
        if (chance(40)) {
            code.u1(196, op).u2(local).u2(new int[op == 132 ? 1 : 0]);
        } else {
            code.u1(op, local).u1(new int[op == 132 ? 1 : 0]);
        }
    }

    private int target(int op, List<Integer> starts) {
        return starts.get(random.nextInt(starts.size())) - op + (chance(2) ? 1 : 0);
    }

    private void jump(Shape code, int op, List<Integer> starts) {
        int by = target(code.size(), starts);
        code.u1(op).u2(by);
    }

    private void table(Shape code, List<Integer> starts) {
        int op = code.size();
        code.u1(170);
        while (code.size() % 4 != 0) {
            code.u1(random.nextInt(256));
        }
        int low = new int[] {0, -3, 5, Integer.MAX_VALUE - 1, Integer.MIN_VALUE}[random.nextInt(5)];
        int more = random.nextInt(2);
        code.u4(target(op, starts), low, chance(95) ? low + more : random.nextInt());
        for (int i = 0; i <= more; i++) {
            code.u4(target(op, starts));
        }
    }
}
