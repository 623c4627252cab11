import java.math.BigInteger;
import java.util.HashMap;
import java.util.Map;

/**
 * The document written a second time, for comparison: bytes one by one, numbers picked bit by bit, traps as
 * exceptions, arithmetic with BigInteger. It shares no code and no way of working with HartDesk.
 */
final class Model {
    private static final class Trap extends Exception {
        private static final long serialVersionUID = 1;
        final int cause;
        final int value;

        Trap(int cause, int value) {
            super(null, null, false, false);
            this.cause = cause;
            this.value = value;
        }
    }

    private static final BigInteger TWO_32 = BigInteger.ONE.shiftLeft(32);

    final byte[] memory = new byte[4096];
    final int[] registers = new int[33];
    final Map<Integer, Integer> controls = new HashMap<>();
    boolean stopped;
    boolean up;
    int steps;
    int done;
    int traps;
    private int next;

    Model() {
        clearControls();
    }

    private void clearControls() {
        int[] numbers = {768, 772, 773, 832, 833, 834, 835};
        for (int number : numbers) {
            controls.put(number, 0);
        }
    }

    boolean set(int address, int word) {
        if (address < 0 || address > 4092 || address % 4 != 0) {
            return false;
        }
        write(address, 4, word);
        return true;
    }

    boolean put(int register, int v) {
        if (register == 32 && v % 4 == 0) {
            registers[32] = v;
            stopped = false;
            return true;
        }
        if (register >= 1 && register <= 31) {
            registers[register] = v;
            return true;
        }
        return false;
    }

    /** How many steps were made; -1 for IllegalStateException. */
    int run(int n) {
        if (steps == 100000) {
            return -1;
        }
        for (int k = 0; k < n; k++) {
            if (stopped) {
                return k;
            }
            if (steps == 100000) {
                return -1;
            }
            steps++;
            step();
        }
        return n;
    }

    void reset(boolean all) {
        java.util.Arrays.fill(registers, 0);
        clearControls();
        stopped = false;
        done = 0;
        traps = 0;
        if (all) {
            java.util.Arrays.fill(memory, (byte) 0);
        }
    }

    Integer control(int number) {
        if (number == 836) {
            return up ? 2048 : 0;
        }
        return number == 2816 ? Integer.valueOf(done) : controls.get(number);
    }

    int word(int address) {
        return read(address, 4).intValue();
    }

    private BigInteger read(int address, int bytes) {
        BigInteger value = BigInteger.ZERO;
        for (int k = bytes - 1; k >= 0; k--) {
            value = value.shiftLeft(8).add(BigInteger.valueOf(memory[address + k] & 255));
        }
        return value;
    }

    private void write(int address, int bytes, int v) {
        for (int k = 0; k < bytes; k++) {
            memory[address + k] = (byte) (v >> 8 * k);
        }
    }

    private void step() {
        int pc = registers[32];
        try {
            if ((controls.get(768) & 8) == 8 && controls.get(772) == 2048 && up) {
                throw new Trap(-2147483637, 0);
            }
            if (unsigned(pc).compareTo(BigInteger.valueOf(4096)) >= 0) {
                throw new Trap(1, pc);
            }
            next = pc + 4;
            execute(pc, word(pc));
            registers[0] = 0;
            registers[32] = next;
            done++;
        } catch (Trap trap) {
            traps++;
            controls.put(833, pc);
            controls.put(834, trap.cause);
            controls.put(835, trap.value);
            controls.put(768, controls.get(768) % 16 == 8 ? 128 : 0);
            if (controls.get(773) == 0) {
                stopped = true;
            } else {
                registers[32] = controls.get(773);
            }
        }
    }

    /** The bits from..to of a word, one range behind the other, the first one with the sign. */
    private static int number(int word, int zeros, int... ranges) {
        StringBuilder text = new StringBuilder();
        for (int k = 0; k < ranges.length; k += 2) {
            for (int bit = ranges[k]; bit >= ranges[k + 1]; bit--) {
                text.append((word >> bit & 1) == 1 ? '1' : '0');
            }
        }
        text.append("0".repeat(zeros));
        BigInteger value = new BigInteger(text.toString(), 2);
        return text.charAt(0) == '1' ? value.subtract(BigInteger.ONE.shiftLeft(text.length())).intValue() : value.intValue();
    }

    private static BigInteger signed(int v) {
        return BigInteger.valueOf(v);
    }

    private static BigInteger unsigned(int v) {
        return BigInteger.valueOf(v).mod(TWO_32);
    }

    private void execute(int pc, int w) throws Trap {
        int d = w >> 7 & 31;
        int f = w >> 12 & 7;
        int a = registers[w >> 15 & 31];
        int b = registers[w >> 20 & 31];
        int upper = number(w, 12, 31, 12);
        int i = number(w, 0, 31, 20);
        switch (w & 127) {
            case 55 -> registers[d] = upper;
            case 23 -> registers[d] = pc + upper;
            case 111 -> {
                goTo(pc + number(w, 1, 31, 31, 19, 12, 20, 20, 30, 21));
                registers[d] = pc + 4;
            }
            case 103 -> {
                need(f == 0, w);
                int target = a + i;
                goTo(target % 2 == 0 ? target : target - 1);
                registers[d] = pc + 4;
            }
            case 99 -> {
                need(f != 2 && f != 3, w);
                if (compares(f, a, b)) {
                    goTo(pc + number(w, 1, 31, 31, 7, 7, 30, 25, 11, 8));
                }
            }
            case 3 -> load(w, d, f, a + i);
            case 35 -> store(w, f, a + number(w, 0, 31, 25, 11, 7), b);
            case 19 -> {
                int s = w >>> 25;
                need(f != 1 || s == 0, w);
                need(f != 5 || s == 0 || s == 32, w);
                int operand = f == 1 || f == 5 ? w >> 20 & 31 : i;
                registers[d] = compute(f == 5 && s == 32 ? 9 : f, a, operand);
            }
            case 51 -> {
                int s = w >>> 25;
                need(s < 2 || s == 32 && (f == 0 || f == 5), w);
                registers[d] = s == 1 ? longer(f, a, b) : compute(s == 32 ? (f == 0 ? 8 : 9) : f, a, b);
            }
            case 15 -> { }
            case 115 -> system(pc, w, d, f, a);
            default -> need(false, w);
        }
    }

    private static void need(boolean known, int w) throws Trap {
        if (!known) {
            throw new Trap(2, w);
        }
    }

    private void goTo(int target) throws Trap {
        if (target % 4 != 0) {
            throw new Trap(0, target);
        }
        next = target;
    }

    private static boolean compares(int f, int a, int b) {
        int order = f < 6 ? signed(a).compareTo(signed(b)) : unsigned(a).compareTo(unsigned(b));
        boolean holds = f < 2 ? order == 0 : order < 0;
        return f % 2 == 0 ? holds : !holds;
    }

    private static void needRoom(int address, int bytes, int cause) throws Trap {
        if (address % bytes != 0) {
            throw new Trap(cause, address);
        }
        if (unsigned(address).add(BigInteger.valueOf(bytes)).compareTo(BigInteger.valueOf(4096)) > 0) {
            throw new Trap(cause + 1, address);
        }
    }

    private void load(int w, int d, int f, int address) throws Trap {
        need(f <= 2 || f == 4 || f == 5, w);
        int bytes = 1 << f % 4;
        needRoom(address, bytes, 4);
        BigInteger value = read(address, bytes);
        if (f < 4 && value.testBit(8 * bytes - 1)) {
            value = value.subtract(BigInteger.ONE.shiftLeft(8 * bytes));
        }
        registers[d] = value.intValue();
    }

    private void store(int w, int f, int address, int b) throws Trap {
        need(f <= 2, w);
        needRoom(address, 1 << f, 6);
        write(address, 1 << f, b);
    }

    private static int compute(int f, int a, int b) {
        BigInteger result = switch (f) {
            case 0 -> signed(a).add(signed(b));
            case 1 -> signed(a).shiftLeft(b & 31);
            case 2 -> signed(a).compareTo(signed(b)) < 0 ? BigInteger.ONE : BigInteger.ZERO;
            case 3 -> unsigned(a).compareTo(unsigned(b)) < 0 ? BigInteger.ONE : BigInteger.ZERO;
            case 4 -> signed(a).xor(signed(b));
            case 5 -> unsigned(a).shiftRight(b & 31);
            case 6 -> signed(a).or(signed(b));
            case 7 -> signed(a).and(signed(b));
            case 8 -> signed(a).subtract(signed(b));
            default -> signed(a).shiftRight(b & 31);
        };
        return result.intValue();
    }

    private static int longer(int f, int a, int b) {
        if (f >= 4 && b == 0) {
            return f < 6 ? -1 : a;
        }
        BigInteger result = switch (f) {
            case 0 -> signed(a).multiply(signed(b));
            case 1 -> signed(a).multiply(signed(b)).shiftRight(32);
            case 2 -> signed(a).multiply(unsigned(b)).shiftRight(32);
            case 3 -> unsigned(a).multiply(unsigned(b)).shiftRight(32);
            case 4 -> signed(a).divide(signed(b));
            case 5 -> unsigned(a).divide(unsigned(b));
            case 6 -> signed(a).remainder(signed(b));
            default -> unsigned(a).remainder(unsigned(b));
        };
        return result.intValue();
    }

    private void system(int pc, int w, int d, int f, int a) throws Trap {
        if (w == 115) {
            throw new Trap(11, 0);
        }
        if (w == 1048691) {
            throw new Trap(3, pc);
        }
        if (w == 807403635) {
            controls.put(768, controls.get(768) >= 128 ? 136 : 128);
            next = controls.get(833);
            return;
        }
        need(f != 0 && f != 4, w);
        int number = w >>> 20;
        int field = w >> 15 & 31;
        int operand = f >= 5 ? field : a;
        Integer had = control(number);
        need(had != null, w);
        if (f == 1 || f == 5 || field != 0) {
            need(number != 836 && number != 2816, w);
            int becomes = f % 4 == 1 ? operand : f % 4 == 2 ? had | operand : had - (had & operand);
            controls.put(number, held(number, becomes));
        }
        registers[d] = had;
    }

    private static int held(int number, int v) {
        return switch (number) {
            case 768 -> v & 136;
            case 772 -> v & 2048;
            case 773, 833 -> v - (v & 3);
            default -> v;
        };
    }
}
