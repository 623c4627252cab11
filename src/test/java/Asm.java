/** Makes the words of instructions, and small desks that hold them. */
final class Asm {
    static final int STATUS = 768;
    static final int ENABLED = 772;
    static final int VECTOR = 773;
    static final int SCRATCH = 832;
    static final int BACK = 833;
    static final int CAUSE = 834;
    static final int VALUE = 835;
    static final int PENDING = 836;
    static final int DONE = 2816;
    static final int[] CONTROLS = {STATUS, ENABLED, VECTOR, SCRATCH, BACK, CAUSE, VALUE, PENDING, DONE};

    static final int CALL = 115;
    static final int BREAK = 1048691;
    static final int RETURN = 807403635;
    static final int NOTHING = 15;
    static final int STAY = jal(0, 0);
    static final int INTERRUPT = -2147483637;

    static final int[] EDGES = {0, 1, 2, 3, 5, 31, 32, 33, 127, 128, 255, 256, 2047, 2048, 32767, 32768, 65535, 65536,
        0x12345678, 0x7FFFFFFE, 0x7FFFFFFF, 0x80000000, 0x80000001, 0x87654321, 0xFFFF0000, 0xFFFF8000,
        -2048, -129, -128, -33, -32, -31, -7, -3, -2, -1};

    /** Some addresses of words, the first and the last among them: few enough for an object's 512 calls. */
    static final int[] SOME_WORDS = {0, 4, 8, 12, 60, 64, 124, 128, 252, 256, 260, 508, 512, 516, 1020, 1024, 1028, 1532,
        1536, 2040, 2044, 2048, 2052, 2056, 3068, 3072, 3076, 3584, 4080, 4084, 4088, 4092};

    private Asm() {
    }

    static int r(int op, int d, int f, int a, int b, int s) {
        return op | d << 7 | f << 12 | a << 15 | b << 20 | s << 25;
    }

    static int i(int op, int d, int f, int a, int number) {
        return op | d << 7 | f << 12 | a << 15 | number << 20;
    }

    static int lui(int d, int upper) {
        return 55 | d << 7 | upper << 12;
    }

    static int auipc(int d, int upper) {
        return 23 | d << 7 | upper << 12;
    }

    static int jal(int d, int by) {
        return 111 | d << 7 | bits(by, 12, 19) << 12 | bits(by, 11, 11) << 20 | bits(by, 1, 10) << 21
            | bits(by, 20, 20) << 31;
    }

    static int jalr(int d, int a, int number) {
        return i(103, d, 0, a, number);
    }

    static int branch(int f, int a, int b, int by) {
        return 99 | bits(by, 11, 11) << 7 | bits(by, 1, 4) << 8 | f << 12 | a << 15 | b << 20
            | bits(by, 5, 10) << 25 | bits(by, 12, 12) << 31;
    }

    static int load(int f, int d, int a, int number) {
        return i(3, d, f, a, number);
    }

    static int store(int f, int a, int b, int number) {
        return 35 | bits(number, 0, 4) << 7 | f << 12 | a << 15 | b << 20 | bits(number, 5, 11) << 25;
    }

    static int addi(int d, int a, int number) {
        return i(19, d, 0, a, number);
    }

    static int control(int f, int d, int a, int number) {
        return i(115, d, f, a, number);
    }

    private static int bits(int v, int low, int high) {
        return v >>> low & (1 << high - low + 1) - 1;
    }

    static boolean isControl(int number) {
        for (int each : CONTROLS) {
            if (each == number) {
                return true;
            }
        }
        return false;
    }

    /** A desk with these words from address 0 on. */
    static HartDesk desk(int... words) {
        HartDesk x = new HartDesk();
        setAll(x, 0, words);
        return x;
    }

    static void setAll(HartDesk x, int address, int... words) {
        for (int k = 0; k < words.length; k++) {
            if (!x.set(address + 4 * k, words[k])) {
                throw new IllegalStateException("set(" + (address + 4 * k) + ") is refused");
            }
        }
    }

    /** Does one word at address 0 of the desk, as its next step. */
    static int doWord(HartDesk x, int word) {
        return doWordAt(x, 0, word);
    }

    static int doWordAt(HartDesk x, int address, int word) {
        x.set(address, word);
        x.put(32, address);
        return x.run(1);
    }

    /** Writes a control by an instruction at address 0; register 31 is used up. */
    static void writeControl(HartDesk x, int number, int v) {
        x.put(31, v);
        doWord(x, control(1, 0, 31, number));
    }
}
