import java.util.Arrays;

/** The Terms on CODE and INSTRUCTIONS (RULES 22 to 27), sentence by sentence, with the edges that each names. */
final class CodeEdges {
    private static final String TERMS = "Terms";
    private static final int START = Shape.instructionsStart();
    private static final int[] ENDS = {167, 170, 172, 177, 191};

    private final Sentences doc;

    CodeEdges(Sentences doc) {
        this.doc = doc;
    }

    void run() {
        codeLength();
        instructionBytes();
        handlersRead();
        attributesInCode();
        withoutOperands();
        plainOperands();
        entries();
        locals();
        wide();
        jumps();
        tableHeads();
        tableNumbers();
        tableJumps();
        noInstruction();
        wrongOperand();
        targets();
        lastInstruction();
        handlersJudged();
        orderOfJudging();
    }

    private static Shape bytes(int... values) {
        return new Shape().u1(values);
    }

    /** These instructions alone break the RULE, 0 for none, at a place in the code. */
    private void code(String what, Shape instructions, int rule, int place) {
        doc.judged(what, Shape.withInstructions(instructions), rule, START + place);
    }

    private void rightCode(String what, Shape instructions, int number) {
        doc.right(what, Shape.withInstructions(instructions));
        doc.tallies(what, Shape.withInstructions(instructions), 15, 0, 1, number, 0, 1);
    }

    /** A class whose method has so many locals and these instructions. */
    private static Shape withLocals(int locals, Shape instructions) {
        return Shape.withCode(new Shape().u2(1, locals).u4(instructions.size()).all(instructions).u2(0, 0));
    }

    private void codeLength() {
        doc.says(TERMS, "CODE: U2 stack, U2 locals, U4 length 1 .. 64, else RULE 22 (the length);");
        rightCode("length 1", bytes(177), 1);
        rightCode("length 64", bytes(new int[63]).u1(177), 64);
        code("length 65", bytes(new int[64]).u1(177), 22, -4);
        for (int length : new int[] {0, 65, 256, 257, 0x10001, 0x01000001, 0x7FFFFFFF, 0x80000000, 0x80000001, 0xFFFFFFFF}) {
            doc.judged("length " + Integer.toHexString(length) + " and no byte behind",
                Shape.withCode(new Shape().u2(1, 2).u4(length)), 22, START - 4);
        }
        for (int stack : new int[] {0, 0xFFFF}) {
            doc.right("stack " + stack, Shape.withCode(new Shape().u2(stack, stack).u4(1).u1(177).u2(0, 0)));
        }
    }

    private void instructionBytes() {
        doc.says(TERMS, "so many bytes of INSTRUCTIONS;");
        doc.judged("length 64, no byte", Shape.withCode(new Shape().u2(1, 2).u4(64)), 20, START - 14);
        doc.judged("length 2, one byte", Shape.withCode(new Shape().u2(1, 2).u4(2).u1(177)), 20, START - 14);
        doc.judged("length 1, two bytes", Shape.withCode(new Shape().u2(1, 2).u4(1).u1(177, 177).u2(0, 0)), 20, START - 14);
    }

    private void handlersRead() {
        doc.says(TERMS, "U2 number of handlers, each U2 start, U2 end, U2 handler, U2 kind;");
        Shape start = new Shape().u2(1, 2).u4(1).u1(177);
        doc.right("none", Shape.withCode(start.copy().u2(0, 0)));
        doc.right("one", Shape.withCode(start.copy().u2(1, 0, 1, 0, 0, 0)));
        doc.tallies("one", Shape.withCode(start.copy().u2(1, 0, 1, 0, 0, 0)), 15, 0, 1, 1, 1, 1);
        Shape most = start.copy().u2(30);
        for (int i = 0; i < 30; i++) {
            most.u2(0, 1, 0, Shape.CLASS_A);
        }
        doc.right("30", Shape.withCode(most.u2(0)));
        doc.tallies("30", Shape.withCode(most), 15, 0, 1, 1, 30, 1);
        for (int number : new int[] {1, 2, 0x1FFF, 0x2000, 0x8000, 0xFFFF}) {
            doc.judged(number + " of seven bytes", Shape.withCode(start.copy().u2(number, 0, 1, 0).u1(0)), 20, START - 14);
        }
    }

    private void attributesInCode() {
        doc.says(TERMS, "ATTRIBUTES, which are all passed over.");
        Shape code = new Shape().u2(1, 2).u4(1).u1(177).u2(0).u2(3, Shape.CODE).u4(0).u2(Shape.CODE).u4(1).u1(9)
            .u2(Shape.CONSTANT_VALUE).u4(0);
        doc.right("two \"Code\" and a \"ConstantValue\"", Shape.withCode(code));
        doc.tallies("two \"Code\" and a \"ConstantValue\"", Shape.withCode(code), 15, 0, 1, 1, 0, 4);
    }

    private void withoutOperands() {
        doc.says(TERMS, "INSTRUCTIONS follow one another; op and operands: 0 nop, 1 null, 3 zero, 87 pop, 96 add: none;");
        rightCode("each of them", bytes(0, 1, 3, 87, 96, 177), 6);
        for (int op : new int[] {0, 1, 3, 87, 96}) {
            rightCode("op " + op, bytes(op, 177), 2);
            code("op " + op + " and 2", bytes(op, 2, 177), 23, 1);
        }
        doc.says(TERMS, "172, 177, 191: none;");
        for (int op : new int[] {172, 177, 191}) {
            rightCode("op " + op, bytes(op), 1);
            rightCode("op " + op + " twice", bytes(op, op), 2);
            code("op " + op + " and 2", bytes(op, 2, 177), 23, 1);
        }
    }

    /** An op whose operands have so many bytes: with one less, whole, and with another op right behind. */
    private void sized(Shape instruction) {
        int op = instruction.toBytes()[0] & 0xFF;
        rightCode("op " + op, bytes(0).all(instruction).u1(177), 3);
        code("op " + op + " and 2", bytes(0).all(instruction).u1(2, 177), 23, 1 + instruction.size());
        for (int less = 1; less < instruction.size(); less++) {
            code("op " + op + " with " + less + " bytes less", bytes(0).all(instruction.copy().without(less)), 23, 1);
        }
    }

    private void plainOperands() {
        doc.says(TERMS, "16: U1; 17: U2;");
        for (int value : new int[] {0, 1, 2, 127, 128, 255}) {
            sized(bytes(16, value));
            sized(bytes(17, value, value));
        }
    }

    private void entries() {
        int[] numbers = {0, 1, 2, 3, 4, 5, 6, 7, 8, 9, 10, 11, 12, 13, 14, 15, 16, 17, 127, 128, 255};
        doc.says(TERMS, "18: U1, an entry INT or STRING;");
        sized(bytes(18, Shape.FIVE));
        sized(bytes(18, Shape.STRING));
        for (int number : numbers) {
            boolean right = number == Shape.FIVE || number == Shape.STRING;
            code("18 of " + number, bytes(0, 18, number, 177), right ? 0 : 24, 1);
        }
        doc.says(TERMS, "184: U2, an entry METHOD;");
        sized(bytes(184, 0, Shape.METHOD));
        for (int number : numbers) {
            code("184 of " + number, bytes(0, 184, 0, number, 177), number == Shape.METHOD ? 0 : 24, 1);
        }
        code("184 of 256 + 9", bytes(184, 1, Shape.METHOD, 177), 24, 0);
        code("184 of 32768 + 9", bytes(184, 0x80, Shape.METHOD, 177), 24, 0);
        code("184 of 9 * 256", bytes(184, Shape.METHOD, 0, 177), 24, 0);
    }

    /** The op with a local of one byte at each edge of the locals. */
    private void localOp(int op, int... more) {
        int[][] cases = {{0, 0}, {0, 255}, {1, 0}, {1, 1}, {1, 2}, {2, 1}, {2, 2}, {127, 128}, {128, 127}, {128, 128}, {129, 128},
            {255, 254}, {255, 255}, {256, 255}, {0x8000, 255}, {0xFFFF, 255}};
        for (int[] c : cases) {
            Shape shape = withLocals(c[0], bytes(0, op, c[1]).u1(more).u1(177));
            doc.judged(op + " of " + c[1] + " with " + c[0] + " locals", shape, c[1] < c[0] ? 0 : 24, START + 1);
        }
    }

    private void locals() {
        doc.says(TERMS, "21, 54: U1, below locals;");
        sized(bytes(21, 1));
        sized(bytes(54, 1));
        localOp(21);
        localOp(54);
        doc.says(TERMS, "132: U1, below locals, U1;");
        sized(bytes(132, 1, 0));
        localOp(132, 255);
        localOp(132, 0);
    }

    private void wide() {
        doc.says(TERMS, "196: then 21 or 54 and U2 below locals, or 132, U2 below locals and U2;");
        for (int op = 0; op < 256; op++) {
            boolean right = op == 21 || op == 54 || op == 132;
            Shape shape = bytes(196, op).u2(1).u2(new int[op == 132 ? 1 : 0]).u1(177);
            code("196 " + op, shape, right ? 0 : 23, 0);
        }
        sized(bytes(196, 21, 0, 1));
        sized(bytes(196, 54, 0, 0));
        sized(bytes(196, 132, 0, 1, 255, 255));
        int[][] cases = {{0, 0}, {0, 0xFFFF}, {1, 0}, {1, 1}, {1, 2}, {1, 256}, {256, 255}, {256, 256}, {256, 257}, {257, 256},
            {0x7FFF, 0x8000}, {0x8000, 0x7FFF}, {0x8000, 0x8000}, {0xFFFF, 0xFFFE}, {0xFFFF, 0xFFFF}};
        for (int[] c : cases) {
            int rule = c[1] < c[0] ? 0 : 24;
            String what = " of " + c[1] + " with " + c[0] + " locals";
            doc.judged("196 21" + what, withLocals(c[0], bytes(196, 21).u2(c[1]).u1(177)), rule, START);
            doc.judged("196 54" + what, withLocals(c[0], bytes(196, 54).u2(c[1]).u1(177)), rule, START);
            doc.judged("196 132" + what, withLocals(c[0], bytes(196, 132).u2(c[1], 9).u1(177)), rule, START);
        }
        for (int before = 55; before <= 63; before++) {
            Shape shape = bytes(new int[before]).u1(196, 21, 0, 1);
            boolean fits = before <= 60;
            Shape cut = fits ? shape.u1(new int[60 - before]) : shape.without(before - 60);
            // Where 196 is all there, what is wrong comes later: the last instruction, it or a nop, may not be the last.
            int last = before == 60 ? 60 : 63;
            doc.judged("196 at " + before + " of 64", early(cut), fits ? 26 : 23, 60 + (fits ? last : before));
        }
    }

    /** A class whose CODE begins as early as it can: its instructions are at 60, below the last places of 64 bytes. */
    private static Shape early(Shape instructions) {
        Shape code = Shape.code(instructions);
        return Shape.head(4).text("Code").u1(7).u2(1).text("()V").u2(0, 2, 2, 0, 0, 1, 0, 1, 3, 1, 1).u4(code.size())
            .all(code).u2(0);
    }

    private void jumps() {
        doc.says(TERMS, "153, 167: U2, signed: a jump by so much from the op's place;");
        sized(bytes(153).u2(0));
        sized(bytes(167).u2(0));
        for (int op : new int[] {153, 167}) {
            // Instructions at 0, 2, 5 and 8 of nine bytes.
            for (int by = -7; by < 6; by++) {
                int to = 5 + by;
                boolean right = to == 0 || to == 2 || to == 5 || to == 8;
                code(op + " by " + by, bytes(16, 1, 17, 0, 0, op).u2(by).u1(177), right ? 0 : 25, 5);
            }
            for (int by : new int[] {32767, -32768, 256, -256, 64, -1}) {
                code(op + " by " + by, bytes(op).u2(by).u1(177), 25, 0);
            }
            code(op + " by 63", bytes(op).u2(63).u1(new int[60]).u1(177), 0, 0);
            code(op + " by 64", bytes(op).u2(64).u1(new int[60]).u1(177), 25, 0);
            code(op + " by -60", bytes(new int[60]).u1(op).u2(-60).u1(177), 0, 0);
            code(op + " by -61", bytes(new int[60]).u1(op).u2(-61).u1(177), 25, 60);
        }
    }

    /** Some nops and 170, whose bytes up to the multiple of 4 are the given ones. */
    private static Shape table(int before, int filling, int... numbers) {
        Shape shape = bytes(new int[before]).u1(170);
        while (shape.size() % 4 != 0) {
            shape.u1(filling);
        }
        return shape.u4(numbers);
    }

    private void tableHeads() {
        doc.says(TERMS,
            "170: 0 to 3 bytes till the place in the code is a multiple of 4, U4 default, U4 low, U4 high,");
        for (int before = 0; before < 9; before++) {
            for (int filling : new int[] {0, 255}) {
                rightCode("170 at " + before, table(before, filling, 0, 1, 1, 0), before + 1);
            }
            int size = table(before, 0, 0, 1, 1, 0).size() - before;
            for (int left = 1; left < size; left++) {
                Shape less = table(before, 0, 0, 1, 1, 0).without(size - left);
                code("170 at " + before + " with " + left + " bytes", less, 23, before);
            }
            code("170 at " + before + " and 2", table(before, 0, 0, 1, 1, 0).u1(2), 23, before + size);
        }
        // The places are told from the code's first byte: the FILE's place of it is no multiple of 4 in one of these.
        for (int more = 0; more < 4; more++) {
            Shape instructions = table(2, 0, 0, 1, 1, 0);
            Shape shape = Shape.toMethods().u2(1, 0, Shape.M, Shape.TO_VOID, 2, Shape.A).u4(more).u1(new int[more])
                .u2(Shape.CODE).u4(Shape.code(instructions).size()).all(Shape.code(instructions)).u2(0);
            doc.right("170 where the code is moved by " + more, shape);
        }
    }

    private void tableNumbers() {
        doc.says(TERMS, "low must not be above high (signed) and high - low below 8,");
        int most = Integer.MAX_VALUE;
        int least = Integer.MIN_VALUE;
        int[][] right = {{0, 0}, {5, 5}, {5, 12}, {-1, 0}, {-8, -1}, {-4, 3}, {most, most}, {most - 7, most}, {least, least},
            {least, least + 7}};
        for (int[] r : right) {
            Shape shape = table(0, 0, 0, r[0], r[1]).u4(new int[r[1] - r[0] + 1]);
            rightCode("170 of " + r[0] + " .. " + r[1], shape, 1);
            code("170 of " + r[0] + " .. " + r[1] + " with a byte less", shape.copy().without(1), 23, 0);
        }
        int[][] wrong = {{1, 0}, {0, -1}, {5, 13}, {-1, 7}, {most, least}, {least, most}, {0, most}, {least, 5}, {least, -1},
            {most - 8, most}, {least, least + 8}, {most, 0}, {-1, most}};
        for (int[] w : wrong) {
            code("170 of " + w[0] + " .. " + w[1], table(0, 0, 0, w[0], w[1]).u4(new int[9]), 23, 0);
        }
    }

    private void tableJumps() {
        doc.says(TERMS, "then for each of low .. high U4: jumps, signed, from the op's place.");
        // Instructions at 0 and 1, then 170 at 2 of 22 bytes, and one at 24.
        int[] jumps = {0, -1, -2, 22, 1, 2, 20, 21, 23, 24, -3, 0x10000, 0x01000000, Integer.MAX_VALUE, Integer.MIN_VALUE,
            Integer.MAX_VALUE - 1, 256, -256};
        for (int by : jumps) {
            int rule = by == 0 || by == -1 || by == -2 || by == 22 ? 0 : 25;
            code("170 with default " + by, table(2, 0, by, 1, 2, 0, 0).u1(177), rule, 2);
            code("170 with first " + by, table(2, 0, 0, 1, 2, by, 0).u1(177), rule, 2);
            code("170 with last " + by, table(2, 0, 0, 1, 2, 0, by).u1(177), rule, 2);
        }
        for (int wrong = 0; wrong < 8; wrong++) {
            int[] eight = new int[8];
            eight[wrong] = 1;
            code("170 whose jump " + wrong + " of eight is wrong", table(0, 0, 0, 1, 8).u4(eight), 25, 0);
        }
    }

    private static int sizeOf(int op) {
        return switch (op) {
            case 0, 1, 3, 87, 96, 172, 177, 191 -> 1;
            case 16, 18, 21, 54 -> 2;
            case 17, 132, 153, 167, 184 -> 3;
            default -> 0;
        };
    }

    /** An instruction whose operands are right: local 1, entry 7 or 9, a jump by 0. */
    private static Shape instruction(int op) {
        return switch (op) {
            case 18 -> bytes(op, Shape.FIVE);
            case 184 -> bytes(op).u2(Shape.METHOD);
            case 153, 167 -> bytes(op).u2(0);
            case 170 -> bytes(op, 0, 0, 0).u4(0, 0, 0, 0);
            case 196 -> bytes(op, 21, 0, 1);
            default -> sizeOf(op) == 0 ? bytes(op) : bytes(op, 1, 1).without(3 - sizeOf(op));
        };
    }

    /** A FILE of 400 bytes that ends with the CODE of these instructions, before the attributes of the class. */
    private static Shape fullWithCode(Shape instructions) {
        Shape code = Shape.code(instructions);
        Shape shape = Shape.toMethods().u2(1, 0, Shape.M, Shape.TO_VOID, 2, Shape.A);
        int filling = 400 - shape.size() - 4 - 6 - code.size();
        return shape.u4(filling).u1(new int[filling]).u2(Shape.CODE).u4(code.size()).all(code);
    }

    private void noInstruction() {
        doc.says(TERMS, "Another op, one cut off by the code's end, or low and high not so: RULE 23 (the op's place);");
        for (int op = 0; op < 256; op++) {
            boolean isOp = sizeOf(op) != 0 || op == 170 || op == 196;
            code("op " + op, instruction(op).u1(177), isOp ? 0 : 23, 0);
        }
        for (int op : new int[] {16, 17, 18, 21, 54, 132, 153, 167, 170, 184, 196}) {
            Shape cutOff = bytes(177).all(instruction(op));
            code("op " + op + " cut off", cutOff.without(1 + (op == 170 ? 3 : 0)), 23, 1);
            code("op " + op + " alone", bytes(177, op), 23, 1);
        }
        code("cut off at the code's 64th byte", bytes(new int[63]).u1(16), 23, 63);
        // What follows the code would be its operand.
        doc.judged("cut off before its handlers",
            Shape.withCode(new Shape().u2(1, 2).u4(1).u1(16).u2(0, 0)), 23, START);
        for (int op : new int[] {16, 17, 18, 21, 54, 132, 153, 167, 170, 184, 196}) {
            doc.judged("op " + op + " cut off at the FILE's end", fullWithCode(bytes(op)), 23, 400 - 5);
        }
        code("low above high", table(0, 0, 0, 1, 0).u4(0), 23, 0);
        code("the second of two", bytes(0, 2, 2), 23, 1);
    }

    private void wrongOperand() {
        doc.says(TERMS, "an entry or local that is not so: RULE 24 (the op's place).");
        code("18", bytes(0, 18, 1, 177), 24, 1);
        code("184", bytes(0, 184, 0, 1, 177), 24, 1);
        code("21", bytes(0, 21, 2, 177), 24, 1);
        code("54", bytes(0, 54, 2, 177), 24, 1);
        code("132", bytes(0, 132, 2, 0, 177), 24, 1);
        code("196 21", bytes(0, 196, 21, 0, 2, 177), 24, 1);
        code("196 132", bytes(0, 196, 132, 0, 2, 0, 0, 177), 24, 1);
        code("cut off as well", bytes(132, 9), 23, 0);
        doc.tallies("21", Shape.withInstructions(bytes(0, 21, 2, 177)), 15, 0, 0, 0, 0, 0);
    }

    private void targets() {
        doc.says(TERMS, "These are judged instruction by instruction, then, in order, all jumps of each must go to the first "
            + "byte of an instruction: RULE 25 (the op's place).");
        code("RULE 24 before RULE 23 of a later one", bytes(21, 9, 2), 24, 0);
        code("RULE 23 before RULE 24 of a later one", bytes(2, 21, 9), 23, 0);
        code("RULE 23 before RULE 25 of an earlier one", bytes(167, 0, 1, 2), 23, 3);
        code("RULE 24 before RULE 25 of an earlier one", bytes(167, 0, 1, 21, 9), 24, 3);
        code("the first of two", bytes(0, 167, 0, 1, 153, 0, 1, 177), 25, 1);
        code("the second, the first being right", bytes(0, 167, 0, 0, 153, 0, 1, 177), 25, 4);
        code("into 196", bytes(196, 21, 0, 1, 167).u2(-3), 25, 4);
        code("to the code's end", bytes(167).u2(3), 25, 0);
        code("before the code", bytes(167).u2(-1), 25, 0);
        // The bytes that 170 passes over are no instructions, whatever they are.
        code("into the bytes that fill 170", bytes(170, 177, 177, 177).u4(1, 0, 0, 0), 25, 0);
        doc.tallies("to the code's end", Shape.withInstructions(bytes(167).u2(3)), 15, 0, 0, 0, 0, 0);
    }

    private void lastInstruction() {
        doc.says(TERMS, "The last instruction must be 167, 170, 172, 177 or 191: RULE 26 (its place).");
        for (int op = 0; op < 256; op++) {
            boolean isEnd = Arrays.binarySearch(ENDS, op) >= 0;
            if (sizeOf(op) != 0 || op == 170 || op == 196) {
                Shape shape = bytes(177, 177, 177, 177).all(instruction(op));
                code("last is " + op, shape, isEnd ? 0 : 26, 4);
                code("alone is " + op, instruction(op), isEnd ? 0 : 26, 0);
            }
        }
        code("the last byte is 177, but an operand", bytes(177, 16, 177), 26, 1);
        code("the 64th byte", bytes(new int[63]).u1(0), 26, 63);
        code("RULE 25 comes before", bytes(167, 0, 1, 0), 25, 0);
        doc.tallies("the last is 0", Shape.withInstructions(bytes(177, 0)), 15, 0, 0, 0, 0, 0);
    }

    /** Instructions at 0, 2 and 5 of six bytes, and these handlers. */
    private static Shape withHandlers(int... numbers) {
        return Shape.withCode(new Shape().u2(1, 2).u4(6).u1(16, 1, 17, 0, 0, 177).u2(numbers.length / 4).u2(numbers)
            .u2(0));
    }

    private void handlersJudged() {
        doc.says(TERMS, "For each handler in order: start, end and handler must be the first byte of an instruction (end may be "
            + "the code's length), start below end; kind 0 or a CLASS: RULE 27 (its start's place).");
        int place = START + 8;
        for (int value = 0; value < 9; value++) {
            boolean begins = value == 0 || value == 2 || value == 5;
            doc.judged("start " + value, withHandlers(value, 6, 0, 0), begins ? 0 : 27, place);
            doc.judged("end " + value, withHandlers(0, value, 0, 0), value == 2 || value == 5 || value == 6 ? 0 : 27, place);
            doc.judged("handler " + value, withHandlers(0, 6, value, 0), begins ? 0 : 27, place);
        }
        for (int far : new int[] {64, 256, 258, 0x8000, 0xFFFE, 0xFFFF}) {
            doc.judged("start " + far, withHandlers(far, 6, 0, 0), 27, place);
            doc.judged("end " + far, withHandlers(0, far, 0, 0), 27, place);
            doc.judged("handler " + far, withHandlers(0, 6, far, 0), 27, place);
        }
        int[][] pairs = {{2, 2, 27}, {5, 2, 27}, {2, 5, 0}, {5, 5, 27}, {5, 6, 0}, {6, 6, 27}, {0, 0, 27}};
        for (int[] p : pairs) {
            doc.judged("start " + p[0] + ", end " + p[1], withHandlers(p[0], p[1], 0, 0), p[2], place);
        }
        for (int kind : new int[] {0, 1, 2, 3, 7, 8, 9, 10, 11, 12, 13, 15, 16, 0x0102, 0xFFFF}) {
            boolean right = kind == 0 || kind == Shape.CLASS_A || kind == Shape.CLASS_M;
            doc.judged("kind " + kind, withHandlers(0, 6, 0, kind), right ? 0 : 27, place);
        }
        doc.judged("the second of three", withHandlers(0, 2, 5, 0, 0, 6, 6, 0, 1, 1, 1, 1), 27, place + 8);
        doc.right("three", withHandlers(0, 2, 5, 0, 0, 6, 0, 0, 5, 6, 0, 2));
        doc.tallies("the second of two", withHandlers(0, 6, 0, 0, 0, 0, 0, 0), 15, 0, 0, 0, 0, 0);
        doc.right("end 64 of 64 bytes", Shape.withCode(new Shape().u2(1, 2).u4(64).u1(new int[63]).u1(177)
            .u2(1, 63, 64, 63, 0, 0)));
    }

    private void orderOfJudging() {
        doc.says(TERMS, "The INSTRUCTIONS are judged after its handlers and attributes were read and RULE 20.");
        int name = START - 14;
        doc.judged("a wrong op and a handler beyond the end", Shape.withCode(new Shape().u2(1, 2).u4(1).u1(2).u2(1, 0)),
            20, name);
        doc.judged("a wrong op and an attribute's name", Shape.withCode(new Shape().u2(1, 2).u4(1).u1(2).u2(0, 1, 0)),
            15, START + 5);
        doc.judged("a wrong op and a byte too many", Shape.withCode(Shape.code(bytes(2)).u1(0)), 20, name);
        doc.judged("a wrong op, all read", Shape.withCode(Shape.code(bytes(2))), 23, START);
        doc.judged("RULE 26 comes before RULE 27",
            Shape.withCode(new Shape().u2(1, 2).u4(1).u1(0).u2(1, 9, 9, 9, 9, 0)), 26, START);
        Shape counted = Shape.withCode(new Shape().u2(1, 2).u4(1).u1(2).u2(0, 1, Shape.A).u4(0));
        doc.tallies("a wrong op behind an attribute", counted, 15, 0, 0, 0, 0, 1);
    }
}
