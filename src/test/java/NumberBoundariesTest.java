/** The boundaries of REGISTERS, of an INSTRUCTION's parts and NUMBERS, and of ops 55, 23, 19, 51 and 15: by sentence. */
final class NumberBoundariesTest {
    private static final int LEAST = Integer.MIN_VALUE;
    private static final int GREATEST = Integer.MAX_VALUE;

    private final Check check = new Check();

    public static void main(String[] args) {
        NumberBoundariesTest test = new NumberBoundariesTest();
        test.parts();
        test.numbers();
        test.sums();
        test.comparisons();
        test.shifts();
        test.products();
        test.quotients();
        test.rests();
        test.check.end();
    }

    private void parts() {
        registerZeroIsNotWritten();
        registerZeroIsReadAsZero();
        firstAndLastRegister();
        nothingByAny();
        otherOps();
    }

    private void numbers() {
        numberI();
        numberS();
        numberU();
    }

    private void shifts() {
        shiftsByTheNumber();
        shiftsByFiveBits();
        otherShifts();
    }

    /** What register 3 becomes by a word, with A in register 1 and B in register 2. */
    private int become(int word, int a, int b) {
        HartDesk x = new HartDesk();
        x.put(1, a);
        x.put(2, b);
        x.put(3, 0x3BADBAD3);
        check.same("step", Asm.doWord(x, word), 1);
        check.same("it is done", x.state(2), 1);
        check.same("it goes on", x.register(32), 4);
        return x.register(3);
    }

    private void due(String what, int word, int a, int b, int due) {
        check.same(what + " of " + a + ", " + b, become(word, a, b), due);
    }

    private static int withNumber(int f, int number) {
        return Asm.i(19, 3, f, 1, number);
    }

    private static int withRegister(int f, int s) {
        return Asm.r(51, 3, f, 1, 2, s);
    }

    /** The word is one of "Others: TRAP 2", and nothing of it is done. */
    private void unknown(int word) {
        HartDesk x = Shown.fullDesk();
        x.set(128, word);
        Shown due = Shown.of(x).butTrap(2, word, 128);
        check.same("step", x.run(1), 1);
        due.check(check, "word " + word, x);
    }

    // "0 is always 0": each op that has a d writes nothing there, and is done all the same.
    private void registerZeroIsNotWritten() {
        int[] words = {Asm.lui(0, 1), Asm.auipc(0, 1), Asm.addi(0, 1, 1), Asm.i(19, 0, 6, 1, -1), Asm.r(19, 0, 1, 1, 1, 0),
            Asm.r(51, 0, 0, 1, 2, 0), Asm.r(51, 0, 0, 1, 2, 1), Asm.r(51, 0, 0, 1, 2, 32), Asm.r(51, 0, 4, 1, 0, 1),
            Asm.control(2, 0, 0, Asm.VECTOR)};
        for (int word : words) {
            HartDesk x = Shown.fullDesk();
            x.set(128, word);
            Shown due = Shown.of(x).butDone(132);
            check.same("step", x.run(1), 1);
            due.check(check, "d 0 in " + word, x);
        }
    }

    // "0 is always 0": behind such a word too.
    private void registerZeroIsReadAsZero() {
        HartDesk x = new HartDesk();
        Asm.doWord(x, Asm.addi(0, 0, 77));
        check.no("put(0, 77)", x.put(0, 77));
        Asm.doWord(x, Asm.addi(3, 0, 5));
        check.same("as a", x.register(3), 5);
        x.put(1, 6);
        Asm.doWord(x, Asm.r(51, 3, 0, 1, 0, 0));
        check.same("as b", x.register(3), 6);
    }

    // "d 7 .. 11", "a 15 .. 19", "b 20 .. 24": each bit of them, and all of them.
    private void firstAndLastRegister() {
        int[] registers = {1, 2, 4, 8, 16, 30, 31};
        for (int k : registers) {
            for (int other : registers) {
                HartDesk x = new HartDesk();
                for (int j = 1; j < 32; j++) {
                    x.put(j, 100 + j);
                }
                Asm.doWord(x, Asm.r(51, k, 0, other, 5, 32));
                check.same("d " + k + ", a " + other, x.register(k), other - 5);
                x.put(k, 0);
                x.put(other, 100 + other);
                Asm.doWord(x, Asm.r(51, k, 0, 5, other, 32));
                check.same("d " + k + ", b " + other, x.register(k), 5 - other);
            }
        }
    }

    // "15 (any) nothing."
    private void nothingByAny() {
        int[] words = {15, 15 | 31 << 7, 15 | 7 << 12, 15 | 31 << 15, 15 | 31 << 20, 15 | 127 << 25, -1 & ~127 | 15};
        for (int word : words) {
            HartDesk x = Shown.fullDesk();
            x.set(128, word);
            Shown due = Shown.of(x).butDone(132);
            check.same("step", x.run(1), 1);
            due.check(check, "op 15 in " + word, x);
        }
    }

    // "Others: TRAP 2": each other op, the neighbours of those that are known among them.
    private void otherOps() {
        int known = 0;
        for (int op = 0; op < 128; op++) {
            switch (op) {
                case 55, 23, 111, 103, 99, 3, 35, 19, 51, 15, 115 -> known++;
                default -> {
                    unknown(op);
                    unknown(op | 0x00208180);
                    unknown(op | ~127);
                }
            }
        }
        check.same("known ops", known, 11);
    }

    // "with sign: I bits 20 .. 31"
    private void numberI() {
        int[] numbers = {0, 1, 2046, 2047, -1, -2, -2047, -2048};
        for (int number : numbers) {
            due("A + I " + number, withNumber(0, number), 10000, 0, 10000 + number);
        }
        for (int bit = 0; bit < 12; bit++) {
            int value = bit == 11 ? -2048 : 1 << bit;
            due("I of bit " + bit, 19 | 3 << 7 | 1 << 20 + bit, 0, 0, value);
        }
    }

    // "S bits 25 .. 31, then 7 .. 11"
    private void numberS() {
        int[] bits = {7, 8, 9, 10, 11, 25, 26, 27, 28, 29, 30, 31};
        for (int k = 0; k < bits.length; k++) {
            storedAt(35 | 1 << 15 | 2 << 20 | 1 << bits[k], k == 11 ? -2048 : 1 << k);
        }
        int[] numbers = {0, 2046, 2047, -1, -2, -2047, -2048};
        for (int number : numbers) {
            storedAt(Asm.store(0, 1, 2, number), number);
        }
    }

    private void storedAt(int word, int number) {
        HartDesk x = new HartDesk();
        x.put(1, 2048);
        x.put(2, 0x77);
        // Ahead of it or behind it, so that what is stored does not fall on the word itself.
        Asm.doWordAt(x, number < 0 ? 4000 : 16, word);
        int address = 2048 + number;
        check.same("byte at A + " + number, x.word(address & ~3), 0x77 << 8 * (address & 3));
    }

    // "U bits 12 .. 31, then twelve 0": what stands below them is not in it.
    private void numberU() {
        int[] uppers = {0, 1, 0x7FFFF, 0x80000, 0xFFFFF};
        int[] values = {0, 4096, 0x7FFFF000, LEAST, -4096};
        for (int k = 0; k < uppers.length; k++) {
            due("U", Asm.lui(3, uppers[k]), 0, 0, values[k]);
            due("PC + U", Asm.auipc(3, uppers[k]), 0, 0, values[k]);
            HartDesk x = new HartDesk();
            Asm.doWordAt(x, 4092, Asm.auipc(31, uppers[k]));
            check.same("4092 + U", x.register(31), 4092 + values[k]);
            Asm.doWordAt(x, 4092, Asm.lui(31, uppers[k]));
            check.same("U at 4092", x.register(31), values[k]);
        }
    }

    private void sums() {
        sumsWrap();
        bitByBit();
    }

    // "All ints wrap"
    private void sumsWrap() {
        due("A + B", withRegister(0, 0), GREATEST, 1, LEAST);
        due("A + B", withRegister(0, 0), LEAST, -1, GREATEST);
        due("A + B", withRegister(0, 0), LEAST, LEAST, 0);
        due("A + B", withRegister(0, 0), -1, 1, 0);
        due("A - B", withRegister(0, 32), LEAST, 1, GREATEST);
        due("A - B", withRegister(0, 32), GREATEST, -1, LEAST);
        due("A - B", withRegister(0, 32), 0, LEAST, LEAST);
        due("A + I", withNumber(0, 1), GREATEST, 0, LEAST);
        due("A + I", withNumber(0, -1), LEAST, 0, GREATEST);
        due("A + I", withNumber(0, 2047), GREATEST, 0, LEAST + 2046);
        due("A + I", withNumber(0, -2048), LEAST, 0, LEAST - 2048);
    }

    // "4 exclusive or", "6 or", "7 and": with I, its sign in all upper bits.
    private void bitByBit() {
        due("xor I", withNumber(4, -1), 0x12345678, 0, ~0x12345678);
        due("or I", withNumber(6, -2048), 0x12345678, 0, 0xFFFFFE78);
        due("and I", withNumber(7, -2048), 0x12345678, 0, 0x12345000);
        due("and I", withNumber(7, 2047), -1, 0, 2047);
        due("or I", withNumber(6, 0), LEAST, 0, LEAST);
        due("xor", withRegister(4, 0), LEAST, -1, GREATEST);
        due("or", withRegister(6, 0), LEAST, GREATEST, -1);
        due("and", withRegister(7, 0), LEAST, GREATEST, 0);
        due("and", withRegister(7, 0), LEAST, -1, LEAST);
    }

    // "2 1 if A < B (else 0), 3 likewise unsigned" and with I; "unsigned takes an int as 0 .. 2^32 - 1"
    private void comparisons() {
        int[] left = {0, 0, 1, 5, 5, -1, 0, LEAST, GREATEST, LEAST, -1, -2, LEAST, GREATEST};
        int[] right = {0, 1, 0, 5, 6, 0, -1, GREATEST, LEAST, LEAST, -1, -1, -1, -1};
        int[] below = {0, 1, 0, 0, 1, 1, 0, 1, 0, 0, 0, 1, 1, 0};
        int[] belowUnsigned = {0, 1, 0, 0, 1, 0, 1, 0, 1, 0, 0, 1, 1, 1};
        for (int k = 0; k < left.length; k++) {
            due("A < B", withRegister(2, 0), left[k], right[k], below[k]);
            due("A < B unsigned", withRegister(3, 0), left[k], right[k], belowUnsigned[k]);
            if (right[k] >= -2048 && right[k] <= 2047) {
                due("A < I", withNumber(2, right[k]), left[k], 0, below[k]);
                due("A < I unsigned", withNumber(3, right[k]), left[k], 0, belowUnsigned[k]);
            }
        }
        due("A < -2048", withNumber(2, -2048), -2048, 0, 0);
        due("A < -2048", withNumber(2, -2048), -2049, 0, 1);
        due("A < -2048 unsigned", withNumber(3, -2048), -2049, 0, 1);
        due("A < -2048 unsigned", withNumber(3, -2048), -2048, 0, 0);
        due("A < -2048 unsigned", withNumber(3, -2048), GREATEST, 0, 1);
        due("A < 2047", withNumber(2, 2047), 2046, 0, 1);
        due("A < 2047 unsigned", withNumber(3, 2047), 2047, 0, 0);
    }

    // "1 A shifted left by b (the number), 5 right without sign; 5 with s 32 right with sign": by 0 and by 31.
    private void shiftsByTheNumber() {
        int[] values = {1, -1, LEAST, GREATEST, LEAST + 1};
        int[] leftBy31 = {LEAST, LEAST, 0, LEAST, LEAST};
        int[] rightBy31 = {0, 1, 1, 0, 1};
        int[] signedBy31 = {0, -1, -1, 0, -1};
        for (int k = 0; k < values.length; k++) {
            due("left by 0", Asm.r(19, 3, 1, 1, 0, 0), values[k], 9, values[k]);
            due("right by 0", Asm.r(19, 3, 5, 1, 0, 0), values[k], 9, values[k]);
            due("right with sign by 0", Asm.r(19, 3, 5, 1, 0, 32), values[k], 9, values[k]);
            due("left by 31", Asm.r(19, 3, 1, 1, 31, 0), values[k], 9, leftBy31[k]);
            due("right by 31", Asm.r(19, 3, 5, 1, 31, 0), values[k], 9, rightBy31[k]);
            due("right with sign by 31", Asm.r(19, 3, 5, 1, 31, 32), values[k], 9, signedBy31[k]);
        }
        due("b is the number, not what the REGISTER has", Asm.r(19, 3, 1, 1, 2, 0), 1, 9, 4);
    }

    // "shifted left by B's lowest five bits", "5 right without sign", "with s 32 .. 5 right with sign"
    private void shiftsByFiveBits() {
        int[] bs = {0, 1, 31, 32, 33, 63, 64, -1, -32, -31, LEAST, LEAST + 31, GREATEST};
        int[] by = {0, 1, 31, 0, 1, 31, 0, 31, 0, 1, 0, 31, 31};
        for (int k = 0; k < bs.length; k++) {
            int left = by[k] == 0 ? 0x80000003 : by[k] == 1 ? 6 : LEAST;
            int right = by[k] == 0 ? 0x80000003 : by[k] == 1 ? 0x40000001 : 1;
            int signed = by[k] == 0 ? 0x80000003 : by[k] == 1 ? 0xC0000001 : -1;
            due("left", withRegister(1, 0), 0x80000003, bs[k], left);
            due("right", withRegister(5, 0), 0x80000003, bs[k], right);
            due("right with sign", withRegister(5, 32), 0x80000003, bs[k], signed);
        }
    }

    // "with s 0 1 ..., 5 ...; 5 with s 32", "with s 0 by f ..; with s 32 0 .., 5 ..; with s 1": "Others: TRAP 2"
    private void otherShifts() {
        int[] others = {1, 2, 4, 8, 16, 31, 32, 33, 48, 63, 64, 65, 96, 127};
        for (int s : others) {
            unknown(Asm.r(19, 3, 1, 1, 2, s));
            if (s != 32) {
                unknown(Asm.r(19, 3, 5, 1, 2, s));
            }
            for (int f = 0; f < 8; f++) {
                if (s != 1 && (s != 32 || f != 0 && f != 5)) {
                    unknown(Asm.r(51, 3, f, 1, 2, s));
                }
            }
        }
    }

    // "the product of A and B as a longer number: 0 its lower int, 1 its upper one (both with sign), 2 (..), 3 (..)"
    private void products() {
        int[] left = {0, 1, -1, -1, 1, LEAST, LEAST, LEAST, GREATEST, LEAST, -1, 65536, 65536};
        int[] right = {-1, 1, 1, -1, -1, LEAST, -1, 1, GREATEST, GREATEST, LEAST, 65536, -65536};
        int[] lower = {0, 1, -1, 1, -1, 0, LEAST, LEAST, 1, LEAST, LEAST, 0, 0};
        int[] upper = {0, 0, -1, 0, -1, 0x40000000, 0, -1, 0x3FFFFFFF, 0xC0000000, 0, 1, -1};
        int[] mixed = {0, 0, -1, -1, 0, 0xC0000000, LEAST, -1, 0x3FFFFFFF, 0xC0000000, -1, 1, 65535};
        int[] unsigned = {0, 0, 0, -2, 0, 0x40000000, 0x7FFFFFFF, 0, 0x3FFFFFFF, 0x3FFFFFFF, 0x7FFFFFFF, 1, 65535};
        for (int k = 0; k < left.length; k++) {
            due("lower", withRegister(0, 1), left[k], right[k], lower[k]);
            due("upper", withRegister(1, 1), left[k], right[k], upper[k]);
            due("upper, B without sign", withRegister(2, 1), left[k], right[k], mixed[k]);
            due("upper, without sign", withRegister(3, 1), left[k], right[k], unsigned[k]);
        }
    }

    // "4 A / B towards 0 (by 0: -1; the least int by -1: itself), 5 unsigned (by 0: -1)"
    private void quotients() {
        int[] any = {0, 1, -1, 7, LEAST, GREATEST};
        for (int a : any) {
            due("A / B by 0", withRegister(4, 1), a, 0, -1);
            due("A / B unsigned by 0", withRegister(5, 1), a, 0, -1);
        }
        due("the least int by -1", withRegister(4, 1), LEAST, -1, LEAST);
        due("its neighbour by -1", withRegister(4, 1), LEAST + 1, -1, GREATEST);
        due("the least int by 1", withRegister(4, 1), LEAST, 1, LEAST);
        due("the least int by itself", withRegister(4, 1), LEAST, LEAST, 1);
        due("the greatest by the least", withRegister(4, 1), GREATEST, LEAST, 0);
        due("towards 0", withRegister(4, 1), -7, 2, -3);
        due("towards 0", withRegister(4, 1), 7, -2, -3);
        due("towards 0", withRegister(4, 1), -1, 2, 0);
        due("towards 0", withRegister(4, 1), -7, -2, 3);
        due("the least int by -1, unsigned", withRegister(5, 1), LEAST, -1, 0);
        due("-1 by 1, unsigned", withRegister(5, 1), -1, 1, -1);
        due("-1 by the least, unsigned", withRegister(5, 1), -1, LEAST, 1);
        due("-1 by 2, unsigned", withRegister(5, 1), -1, 2, GREATEST);
        due("-2 by -1, unsigned", withRegister(5, 1), -2, -1, 0);
    }

    // "6 the rest with A's sign (by 0: A; the least int by -1: 0), 7 the rest unsigned (by 0: A)"
    private void rests() {
        int[] any = {0, 1, -1, 7, LEAST, GREATEST};
        for (int a : any) {
            due("rest by 0", withRegister(6, 1), a, 0, a);
            due("rest unsigned by 0", withRegister(7, 1), a, 0, a);
            due("rest by -1", withRegister(6, 1), a, -1, 0);
            due("rest by 1", withRegister(6, 1), a, 1, 0);
            due("rest unsigned by 1", withRegister(7, 1), a, 1, 0);
        }
        due("with A's sign", withRegister(6, 1), -7, 2, -1);
        due("with A's sign", withRegister(6, 1), 7, -2, 1);
        due("with A's sign", withRegister(6, 1), -7, -2, -1);
        due("with A's sign", withRegister(6, 1), LEAST, GREATEST, -1);
        due("the greatest by the least", withRegister(6, 1), GREATEST, LEAST, GREATEST);
        due("rest unsigned", withRegister(7, 1), LEAST, -1, LEAST);
        due("rest unsigned", withRegister(7, 1), -1, LEAST, GREATEST);
        due("rest unsigned", withRegister(7, 1), -1, 10, 5);
        due("rest unsigned", withRegister(7, 1), 7, -2, 7);
    }
}
