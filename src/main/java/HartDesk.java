import java.util.Arrays;
import java.util.NoSuchElementException;

public final class HartDesk {
    public static final int NONE = -1;

    private static final int REGISTER_COUNT = 32;
    private static final int PC_NUMBER = 32;
    private static final int MOST_STEPS_A_RUN = 1000;
    private static final int MOST_STEPS_IN_ALL = 100000;

    private static final int TRAP_JUMP_NOT_BY_4 = 0;
    private static final int TRAP_PC_BEYOND = 1;
    private static final int TRAP_UNKNOWN = 2;
    private static final int TRAP_BREAK = 3;
    private static final int TRAP_READ_NOT_BY = 4;
    private static final int TRAP_READ_BEYOND = 5;
    private static final int TRAP_WRITE_NOT_BY = 6;
    private static final int TRAP_WRITE_BEYOND = 7;
    private static final int TRAP_CALL = 11;
    private static final int TRAP_INTERRUPT = -2147483637;

    private static final int WORD_CALL = 115;
    private static final int WORD_BREAK = 1048691;
    private static final int WORD_BACK = 807403635;

    private final Memory memory;
    private final Controls controls;
    private final int[] registers;
    private int pc;
    private boolean stopped;
    private int stepsInAll;
    private int traps;

    public HartDesk() {
        memory = new Memory();
        controls = new Controls();
        registers = new int[REGISTER_COUNT];
    }

    public boolean set(int address, int word) {
        if (!Memory.isWordAddress(address)) {
            return false;
        }
        memory.writeWord(address, word);
        return true;
    }

    public boolean put(int register, int v) {
        if (register == PC_NUMBER) {
            return putPc(v);
        }
        if (register < 1 || register >= REGISTER_COUNT) {
            return false;
        }
        writeRegister(register, v);
        return true;
    }

    public void line(boolean up) {
        controls.lineUp = up;
    }

    public int run(int n) throws IllegalArgumentException, IllegalStateException {
        if (n < 1 || n > MOST_STEPS_A_RUN) {
            throw new IllegalArgumentException("n is not 1 .. 1000");
        }
        // Ahead of the loop too: behind the limit a desk that has stopped is refused as well.
        refuseBeyondLimit();
        int count = 0;
        while (count < n && !stopped) {
            refuseBeyondLimit();
            step();
            count++;
        }
        return count;
    }

    public void reset(boolean all) {
        Arrays.fill(registers, 0);
        controls.clear();
        pc = 0;
        stopped = false;
        traps = 0;
        if (all) {
            memory.clear();
        }
    }

    public int register(int k) throws NoSuchElementException {
        if (k == PC_NUMBER) {
            return pc;
        }
        if (k < 0 || k >= REGISTER_COUNT) {
            throw new NoSuchElementException("no such register");
        }
        return readRegister(k);
    }

    public int control(int number) throws NoSuchElementException {
        if (!Controls.isKnown(number)) {
            throw new NoSuchElementException("no such control");
        }
        return controls.read(number);
    }

    public int word(int address) throws NoSuchElementException {
        if (!Memory.isWordAddress(address)) {
            throw new NoSuchElementException("no word at this address");
        }
        return memory.readWord(address);
    }

    public int state(int what) {
        switch (what) {
            case 0:
                return stopped ? 1 : 0;
            case 1:
                return stepsInAll;
            case 2:
                return controls.done & 0x7FFFFFFF;
            case 3:
                return traps;
            case 4:
                return controls.lineUp ? 1 : 0;
            default:
                return NONE;
        }
    }

    private boolean putPc(int v) {
        if ((v & 3) != 0) {
            return false;
        }
        pc = v;
        stopped = false;
        return true;
    }

    private int readRegister(int k) {
        return k >= 1 && k < registers.length ? registers[k] : 0;
    }

    // Register 0 is left out here, so that it is 0 whoever writes it.
    private void writeRegister(int k, int v) {
        if (k >= 1 && k < registers.length) {
            registers[k] = v;
        }
    }

    private void refuseBeyondLimit() {
        if (stepsInAll >= MOST_STEPS_IN_ALL) {
            throw new IllegalStateException("100000 steps have been in all");
        }
    }

    private void step() {
        stepsInAll++;
        if (controls.isInterrupted()) {
            trap(TRAP_INTERRUPT, 0);
        } else if (!Memory.holds(pc)) {
            trap(TRAP_PC_BEYOND, pc);
        } else if (execute(memory.readWord(pc))) {
            controls.done++;
        }
    }

    // This and the methods below that answer boolean tell whether the
    // instruction was done: false means that a trap came up in its place.
    private boolean execute(int w) {
        switch (Code.op(w)) {
            case 55:
                return goOnWith(w, Code.numberU(w));
            case 23:
                return goOnWith(w, pc + Code.numberU(w));
            case 111:
                return jump(Code.d(w), pc + Code.numberJ(w));
            case 103:
                return jumpByRegister(w);
            case 99:
                return branch(w);
            case 3:
                return load(w);
            case 35:
                return store(w);
            case 19:
                return computeWithNumber(w);
            case 51:
                return computeWithRegister(w);
            case 15:
                return goOn();
            case 115:
                return Code.f(w) == 0 ? callSystem(w) : exchangeControl(w);
            default:
                return unknown(w);
        }
    }

    private int valueA(int w) {
        return readRegister(Code.a(w));
    }

    private int valueB(int w) {
        return readRegister(Code.b(w));
    }

    private boolean goOn() {
        pc += 4;
        return true;
    }

    private boolean goOnWith(int w, int result) {
        writeRegister(Code.d(w), result);
        return goOn();
    }

    private boolean unknown(int w) {
        return trap(TRAP_UNKNOWN, w);
    }

    // Answers false always, as the instruction at hand is then not done.
    private boolean trap(int cause, int value) {
        traps++;
        controls.enterTrap(pc, cause, value);
        if (controls.vector == 0) {
            stopped = true;
        } else {
            pc = controls.vector;
        }
        return false;
    }

    private boolean jump(int d, int target) {
        if ((target & 3) != 0) {
            return trap(TRAP_JUMP_NOT_BY_4, target);
        }
        writeRegister(d, pc + 4);
        pc = target;
        return true;
    }

    private boolean jumpByRegister(int w) {
        if (Code.f(w) != 0) {
            return unknown(w);
        }
        return jump(Code.d(w), (valueA(w) + Code.numberI(w)) & ~1);
    }

    private boolean branch(int w) {
        int f = Code.f(w);
        if (f == 2 || f == 3) {
            return unknown(w);
        }
        if (!Arithmetic.holds(f, valueA(w), valueB(w))) {
            return goOn();
        }
        return jump(0, pc + Code.numberB(w));
    }

    private boolean load(int w) {
        int f = Code.f(w);
        if (f == 3 || f > 5) {
            return unknown(w);
        }
        int address = valueA(w) + Code.numberI(w);
        if (!Memory.isBy(address, f & 3)) {
            return trap(TRAP_READ_NOT_BY, address);
        }
        if (!Memory.holds(address)) {
            return trap(TRAP_READ_BEYOND, address);
        }
        return goOnWith(w, memory.readPart(address, f));
    }

    private boolean store(int w) {
        int f = Code.f(w);
        if (f > 2) {
            return unknown(w);
        }
        int address = valueA(w) + Code.numberS(w);
        if (!Memory.isBy(address, f)) {
            return trap(TRAP_WRITE_NOT_BY, address);
        }
        if (!Memory.holds(address)) {
            return trap(TRAP_WRITE_BEYOND, address);
        }
        memory.writePart(address, f, valueB(w));
        return goOn();
    }

    private boolean computeWithNumber(int w) {
        int f = Code.f(w);
        int s = Code.s(w);
        if (f != 1 && f != 5) {
            return goOnWith(w, Arithmetic.basic(f, valueA(w), Code.numberI(w)));
        }
        if (s == 0) {
            return goOnWith(w, Arithmetic.basic(f, valueA(w), Code.b(w)));
        }
        if (s == 32 && f == 5) {
            return goOnWith(w, valueA(w) >> Code.b(w));
        }
        return unknown(w);
    }

    private boolean computeWithRegister(int w) {
        int f = Code.f(w);
        int s = Code.s(w);
        if (s == 0) {
            return goOnWith(w, Arithmetic.basic(f, valueA(w), valueB(w)));
        }
        if (s == 1) {
            return goOnWith(w, Arithmetic.productOrQuotient(f, valueA(w), valueB(w)));
        }
        if (s == 32 && f == 0) {
            return goOnWith(w, valueA(w) - valueB(w));
        }
        if (s == 32 && f == 5) {
            return goOnWith(w, valueA(w) >> (valueB(w) & 31));
        }
        return unknown(w);
    }

    private boolean callSystem(int w) {
        switch (w) {
            case WORD_CALL:
                return trap(TRAP_CALL, 0);
            case WORD_BREAK:
                return trap(TRAP_BREAK, pc);
            case WORD_BACK:
                pc = controls.leaveTrap();
                return true;
            default:
                return unknown(w);
        }
    }

    private boolean exchangeControl(int w) {
        int f = Code.f(w);
        int number = Code.controlNumber(w);
        boolean writes = (f & 3) == 1 || Code.a(w) != 0;
        boolean allowed = writes ? Controls.isWritable(number) : Controls.isKnown(number);
        if (f == 4 || !allowed) {
            return unknown(w);
        }
        int before = controls.read(number);
        if (writes) {
            int operand = f > 4 ? Code.a(w) : valueA(w);
            controls.write(number, Arithmetic.exchanged(f & 3, before, operand));
        }
        return goOnWith(w, before);
    }

    private static final class Code {
        private static int op(int w) {
            return w & 127;
        }

        private static int d(int w) {
            return (w >>> 7) & 31;
        }

        private static int f(int w) {
            return (w >>> 12) & 7;
        }

        private static int a(int w) {
            return (w >>> 15) & 31;
        }

        private static int b(int w) {
            return (w >>> 20) & 31;
        }

        private static int s(int w) {
            return w >>> 25;
        }

        private static int controlNumber(int w) {
            return w >>> 20;
        }

        private static int numberI(int w) {
            return w >> 20;
        }

        private static int numberS(int w) {
            return ((w >> 25) << 5) | d(w);
        }

        private static int numberB(int w) {
            return ((w >> 31) << 12) | (((w >>> 7) & 1) << 11)
                | (((w >>> 25) & 63) << 5) | (((w >>> 8) & 15) << 1);
        }

        private static int numberJ(int w) {
            return ((w >> 31) << 20) | (((w >>> 12) & 255) << 12)
                | (((w >>> 20) & 1) << 11) | (((w >>> 21) & 1023) << 1);
        }

        private static int numberU(int w) {
            return w & ~4095;
        }
    }

    private static final class Arithmetic {
        private static final long LOW = 0xFFFFFFFFL;

        private static boolean isBelow(int x, int y) {
            return (x & LOW) < (y & LOW);
        }

        private static boolean holds(int f, int x, int y) {
            switch (f) {
                case 0:
                    return x == y;
                case 1:
                    return x != y;
                case 4:
                    return x < y;
                case 5:
                    return x >= y;
                case 6:
                    return isBelow(x, y);
                default:
                    return !isBelow(x, y);
            }
        }

        private static int basic(int f, int x, int y) {
            switch (f) {
                case 0:
                    return x + y;
                case 1:
                    return x << (y & 31);
                case 2:
                    return x < y ? 1 : 0;
                case 3:
                    return isBelow(x, y) ? 1 : 0;
                case 4:
                    return x ^ y;
                case 5:
                    return x >>> (y & 31);
                case 6:
                    return x | y;
                default:
                    return x & y;
            }
        }

        private static int productOrQuotient(int f, int x, int y) {
            switch (f) {
                case 0:
                    return x * y;
                case 1:
                    return (int) (((long) x * (long) y) >> 32);
                case 2:
                    return (int) (((long) x * (y & LOW)) >> 32);
                case 3:
                    return (int) (((x & LOW) * (y & LOW)) >>> 32);
                case 4:
                    return quotient(x, y);
                case 5:
                    return quotient(x & LOW, y & LOW);
                case 6:
                    return rest(x, y);
                default:
                    return rest(x & LOW, y & LOW);
            }
        }

        // As longs, the least int by -1 needs no case of its own: the
        // quotient 2^31 becomes the least int again in the cast.
        private static int quotient(long x, long y) {
            return y == 0 ? -1 : (int) (x / y);
        }

        private static int rest(long x, long y) {
            return y == 0 ? (int) x : (int) (x % y);
        }

        private static int exchanged(int way, int before, int operand) {
            switch (way) {
                case 1:
                    return operand;
                case 2:
                    return before | operand;
                default:
                    return before & ~operand;
            }
        }
    }

    // Four bytes to an int: an object then needs a quarter of the elements that bytes would.
    private static final class Memory {
        private static final int BYTE_COUNT = 4096;

        private final int[] words = new int[BYTE_COUNT / 4];

        private static boolean isWordAddress(int address) {
            return holds(address) && (address & 3) == 0;
        }

        // By the alignment that every access has, its first byte tells for all of them.
        private static boolean holds(int address) {
            return address >= 0 && address < BYTE_COUNT;
        }

        // size 0 is a byte, 1 a half, 2 a word
        private static boolean isBy(int address, int size) {
            return (address & ((1 << size) - 1)) == 0;
        }

        private int readWord(int address) {
            int index = address >>> 2;
            return index < words.length ? words[index] : 0;
        }

        private void writeWord(int address, int v) {
            int index = address >>> 2;
            if (index < words.length) {
                words[index] = v;
            }
        }

        private int readPart(int address, int f) {
            int shifted = readWord(address) >>> shift(address);
            switch (f) {
                case 0:
                    return (byte) shifted;
                case 1:
                    return (short) shifted;
                case 4:
                    return shifted & 0xFF;
                case 5:
                    return shifted & 0xFFFF;
                default:
                    return shifted;
            }
        }

        private void writePart(int address, int size, int v) {
            int mask = partMask(size) << shift(address);
            int kept = readWord(address) & ~mask;
            writeWord(address, kept | ((v << shift(address)) & mask));
        }

        private static int shift(int address) {
            return (address & 3) * 8;
        }

        private static int partMask(int size) {
            switch (size) {
                case 0:
                    return 0xFF;
                case 1:
                    return 0xFFFF;
                default:
                    return -1;
            }
        }

        private void clear() {
            Arrays.fill(words, 0);
        }
    }

    // The line and the count of instructions done stand here too, as two controls show them.
    private static final class Controls {
        private static final int STATUS = 768;
        private static final int ENABLED = 772;
        private static final int VECTOR = 773;
        private static final int SCRATCH = 832;
        private static final int BACK = 833;
        private static final int CAUSE = 834;
        private static final int VALUE = 835;
        private static final int PENDING = 836;
        private static final int DONE = 2816;

        private static final int BIT_3 = 1 << 3;
        private static final int BIT_7 = 1 << 7;
        private static final int BIT_11 = 1 << 11;

        private int status;
        private int enabled;
        private int vector;
        private int scratch;
        private int back;
        private int cause;
        private int value;
        private int done;
        private boolean lineUp;

        private static boolean isKnown(int number) {
            return isWritable(number) || number == PENDING || number == DONE;
        }

        private static boolean isWritable(int number) {
            switch (number) {
                case STATUS:
                case ENABLED:
                case VECTOR:
                case SCRATCH:
                case BACK:
                case CAUSE:
                case VALUE:
                    return true;
                default:
                    return false;
            }
        }

        private int read(int number) {
            switch (number) {
                case STATUS:
                    return status;
                case ENABLED:
                    return enabled;
                case VECTOR:
                    return vector;
                case SCRATCH:
                    return scratch;
                case BACK:
                    return back;
                case CAUSE:
                    return cause;
                case VALUE:
                    return value;
                case PENDING:
                    return lineUp ? BIT_11 : 0;
                default:
                    return done;
            }
        }

        private void write(int number, int v) {
            switch (number) {
                case STATUS:
                    status = v & (BIT_3 | BIT_7);
                    break;
                case ENABLED:
                    enabled = v & BIT_11;
                    break;
                case VECTOR:
                    vector = v & ~3;
                    break;
                case SCRATCH:
                    scratch = v;
                    break;
                case BACK:
                    back = v & ~3;
                    break;
                case CAUSE:
                    cause = v;
                    break;
                case VALUE:
                    value = v;
                    break;
                default:
                    break;
            }
        }

        private boolean isInterrupted() {
            return (status & BIT_3) != 0 && (enabled & BIT_11) != 0 && lineUp;
        }

        private void enterTrap(int at, int number, int told) {
            back = at;
            cause = number;
            value = told;
            status = (status & BIT_3) != 0 ? BIT_7 : 0;
        }

        private int leaveTrap() {
            status = (status & BIT_7) != 0 ? BIT_7 | BIT_3 : BIT_7;
            return back;
        }

        // The line is the world's, not the processor's: it stays as it is.
        private void clear() {
            status = 0;
            enabled = 0;
            vector = 0;
            scratch = 0;
            back = 0;
            cause = 0;
            value = 0;
            done = 0;
        }
    }
}
