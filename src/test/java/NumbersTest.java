/** Promise 5: the parts of a word and the numbers in it, ops 55, 23, and words that an assembler of others made. */
final class NumbersTest {
    public static void main(String[] args) {
        Check check = new Check();
        upperNumbers(check);
        numberI(check);
        numberS(check);
        everyRegister(check);
        knownWords(check);
        registerZero(check);
        nothing(check);
        check.end();
    }

    private static void upperNumbers(Check check) {
        int[] uppers = {0, 1, 0x12345, 0x7FFFF, 0x80000, 0xFFFFF};
        for (int upper : uppers) {
            HartDesk x = new HartDesk();
            check.same("step", Asm.doWordAt(x, 2052, Asm.lui(5, upper)), 1);
            check.same("op 55", x.register(5), upper << 12);
            check.same("PC", x.register(32), 2056);
            Asm.doWordAt(x, 2052, Asm.auipc(6, upper));
            check.same("op 23", x.register(6), 2052 + (upper << 12));
            check.same("PC", x.register(32), 2056);
        }
    }

    private static void numberI(Check check) {
        HartDesk x = new HartDesk();
        x.put(1, 100000);
        int[] numbers = {0, 1, 15, 16, 31, 32, 1023, 1024, 2047, -1, -2, -1024, -2047, -2048};
        for (int number : numbers) {
            Asm.doWord(x, Asm.addi(2, 1, number));
            check.same("A + I", x.register(2), 100000 + number);
        }
    }

    private static void numberS(Check check) {
        int[] numbers = {0, 4, 16, 28, 32, 64, 508, 512, 1024, 2044, -4, -32, -36, -1024, -2044, -2048};
        for (int number : numbers) {
            HartDesk x = new HartDesk();
            x.put(1, 2048);
            x.put(2, 0x55AA1234);
            Asm.doWordAt(x, 2040, Asm.store(2, 1, 2, number));
            check.same("word at A + S", x.word(2048 + number), 0x55AA1234);
        }
    }

    private static void everyRegister(Check check) {
        for (int k = 1; k < 32; k++) {
            int other = k % 31 + 1;
            HartDesk x = new HartDesk();
            for (int j = 1; j < 32; j++) {
                x.put(j, j * 1000);
            }
            Asm.doWord(x, Asm.r(51, k, 0, other, k, 32));
            check.same("d, a, b " + k, x.register(k), (other - k) * 1000);
            for (int j = 1; j < 32; j++) {
                if (j != k) {
                    check.same("others stay", x.register(j), j * 1000);
                }
            }
        }
    }

    /** Encodings that stand in the books, so that a slip shared by Asm and the class would be seen. */
    private static void knownWords(Check check) {
        check.same("addi x1, x0, -5", Asm.addi(1, 0, -5), 0xFFB00093);
        check.same("lui x5, 0x12345", Asm.lui(5, 0x12345), 0x123452B7);
        check.same("jal x1, 8", Asm.jal(1, 8), 0x008000EF);
        check.same("jal x0, -4", Asm.jal(0, -4), 0xFFDFF06F);
        check.same("jal x1, 2048", Asm.jal(1, 2048), 0x001000EF);
        check.same("beq x1, x2, -4", Asm.branch(0, 1, 2, -4), 0xFE208EE3);
        check.same("bne x5, x0, 8", Asm.branch(1, 5, 0, 8), 0x00029463);
        check.same("sw x5, 8(x2)", Asm.store(2, 2, 5, 8), 0x00512423);
        check.same("lw x6, -4(x8)", Asm.load(2, 6, 8, -4), 0xFFC42303);
        check.same("jalr x0, 0(x1)", Asm.jalr(0, 1, 0), 0x00008067);
        check.same("srai x3, x1, 4", Asm.r(19, 3, 5, 1, 4, 32), 0x4040D193);
        check.same("mul x3, x1, x2", Asm.r(51, 3, 0, 1, 2, 1), 0x022081B3);
        check.same("csrrw x0, mtvec, x30", Asm.control(1, 0, 30, Asm.VECTOR), 0x305F1073);
        check.same("mret", Asm.RETURN, 0x30200073);
        check.same("ebreak", Asm.BREAK, 0x00100073);
    }

    private static void registerZero(Check check) {
        HartDesk x = new HartDesk();
        x.put(1, 8);
        x.put(2, 9);
        int[] words = {Asm.lui(0, 5), Asm.auipc(0, 5), Asm.jal(0, 8), Asm.jalr(0, 1, 0), Asm.load(2, 0, 1, 0),
            Asm.addi(0, 1, 5), Asm.r(51, 0, 0, 1, 2, 0), Asm.r(51, 0, 0, 1, 2, 1), Asm.control(1, 0, 1, Asm.SCRATCH),
            Asm.control(2, 0, 0, Asm.SCRATCH)};
        for (int word : words) {
            check.same("step", Asm.doWord(x, word), 1);
            check.same("not stopped", x.state(0), 0);
            check.same("register(0)", x.register(0), 0);
        }
        Asm.doWord(x, Asm.addi(3, 0, 5));
        check.same("0 as a", x.register(3), 5);
        Asm.doWord(x, Asm.r(51, 3, 0, 2, 0, 0));
        check.same("0 as b", x.register(3), 9);
    }

    private static void nothing(Check check) {
        HartDesk x = new HartDesk();
        for (int k = 1; k < 32; k++) {
            x.put(k, k);
        }
        int[] words = {15, 0x0FF0000F, 0x0000100F, 0xFFFFFF8F, 0x7000 | 15, 0x80000FFF & ~127 | 15};
        int done = 0;
        for (int word : words) {
            check.same("step", Asm.doWord(x, word), 1);
            check.same("done", x.state(2), ++done);
            check.same("PC", x.register(32), 4);
            check.same("word", x.word(0), word);
        }
        for (int k = 1; k < 32; k++) {
            check.same("register", x.register(k), k);
        }
    }
}
