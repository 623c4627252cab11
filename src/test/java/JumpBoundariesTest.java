/** The boundaries of ops 111, 103 and 99, and of TRAPS 0 and 1: each method is headed by the document's words. */
final class JumpBoundariesTest {
    private static final int LEAST = Integer.MIN_VALUE;
    private static final int GREATEST = Integer.MAX_VALUE;
    private static final int[] J_BITS = {21, 22, 23, 24, 25, 26, 27, 28, 29, 30, 20, 12, 13, 14, 15, 16, 17, 18, 19, 31};
    private static final int[] B_BITS = {8, 9, 10, 11, 25, 26, 27, 28, 29, 30, 7, 31};

    private final Check check = new Check();

    public static void main(String[] args) {
        JumpBoundariesTest test = new JumpBoundariesTest();
        test.numberJ();
        test.numberB();
        test.jumpsAtTheEnds();
        test.jumpsByRegister();
        test.lowestBit();
        test.branches();
        test.branchesNotTaken();
        test.notBy4();
        test.notBy4AndVector();
        test.beyondMemory();
        test.offTheEnd();
        test.jumpsBeyond();
        test.otherForms();
        test.check.end();
    }

    private static HartDesk deskAt(int word) {
        HartDesk x = Shown.fullDesk();
        x.set(128, word);
        return x;
    }

    /** The word at 128 is done: it goes on at the target, and REGISTER d has 132. */
    private void goesOn(HartDesk x, int d, int target) {
        Shown due = Shown.of(x).butDone(target);
        if (d != 0) {
            due.but("register(" + d + ")", 132);
        }
        check.same("step", x.run(1), 1);
        due.check(check, "on at " + target, x);
    }

    private void traps(HartDesk x, int cause, int value) {
        int pc = x.register(32);
        Shown due = Shown.of(x).butTrap(cause, value, pc);
        check.same("step", x.run(1), 1);
        due.check(check, "TRAP " + cause + " with " + value, x);
    }

    /** A jump by 2 times a power of two: the first of them is not by 4. */
    private void goesBy(HartDesk x, int d, int by) {
        if (by % 4 == 0) {
            goesOn(x, d, 128 + by);
        } else {
            traps(x, 0, 128 + by);
        }
    }

    // "J bit 31, 12 .. 19, 20, 21 .. 30, then a 0"
    private void numberJ() {
        for (int k = 0; k < J_BITS.length; k++) {
            int by = k == 19 ? -1048576 : 2 << k;
            goesBy(deskAt(111 | 7 << 7 | 1 << J_BITS[k]), 7, by);
        }
        goesBy(deskAt(111 | 7 << 7), 7, 0);
        goesBy(deskAt(111 | 7 << 7 | 0x7FFFF000), 7, 1048574);
        goesBy(deskAt(111 | 7 << 7 | 0xFFFFF000), 7, -2);
        goesBy(deskAt(Asm.jal(7, 1048572)), 7, 1048572);
        goesBy(deskAt(Asm.jal(7, -4)), 7, -4);
    }

    // "B bit 31, 7, 25 .. 30, 8 .. 11, then a 0"
    private void numberB() {
        for (int k = 0; k < B_BITS.length; k++) {
            int by = k == 11 ? -4096 : 2 << k;
            goesBy(deskAt(99 | 1 << B_BITS[k]), 0, by);
        }
        goesBy(deskAt(99), 0, 0);
        goesBy(deskAt(99 | 0x7E000F80), 0, 4094);
        goesBy(deskAt(99 | 0xFE000F80), 0, -2);
        goesBy(deskAt(Asm.branch(0, 0, 0, 4092)), 0, 4092);
        goesBy(deskAt(Asm.branch(0, 0, 0, -4)), 0, -4);
    }

    // "111 d: PC + 4; on at PC + J." at the first and the last WORD
    private void jumpsAtTheEnds() {
        HartDesk x = new HartDesk();
        Asm.doWordAt(x, 4092, Asm.jal(7, -4092));
        check.same("d at 4092", x.register(7), 4096);
        check.same("on at 0", x.register(32), 0);
        Asm.doWordAt(x, 0, Asm.jal(7, 4092));
        check.same("d at 0", x.register(7), 4);
        check.same("on at 4092", x.register(32), 4092);
        Asm.doWordAt(x, 0, Asm.jal(0, 8));
        check.same("d 0", x.register(0), 0);
        check.same("on at 8", x.register(32), 8);
        check.same("traps", x.state(3), 0);
    }

    // "103 (f 0) d: PC + 4; on at A + I": A is what it had, though d is the same; "All ints wrap"
    private void jumpsByRegister() {
        jumpsFrom(1, 2048, 2044, 4092);
        jumpsFrom(1, 2048, -2048, 0);
        jumpsFrom(1, -4, 4, 0);
        jumpsFrom(1, GREATEST, 1, LEAST);
        jumpsFrom(1, LEAST, -4, GREATEST - 3);
        jumpsFrom(1, 0, -4, -4);
        jumpsFrom(7, 2048, 8, 2056);
        HartDesk x = deskAt(Asm.jalr(7, 0, 1024));
        goesOn(x, 7, 1024);
    }

    private void jumpsFrom(int a, int has, int number, int target) {
        HartDesk x = deskAt(Asm.jalr(7, a, number));
        x.put(a, has);
        goesOn(x, 7, target);
    }

    // "its lowest bit 0"
    private void lowestBit() {
        jumpsFrom(1, 2049, 0, 2048);
        jumpsFrom(1, 2048, 1, 2048);
        jumpsFrom(1, 2049, 3, 2052);
        jumpsFrom(1, GREATEST, -2, GREATEST - 3);
        jumpsFrom(1, -3, 0, -4);
        HartDesk x = deskAt(Asm.jalr(7, 1, 3));
        x.put(1, 2048);
        traps(x, 0, 2050);
        HartDesk y = deskAt(Asm.jalr(7, 1, 0));
        y.put(1, -1);
        traps(y, 0, -2);
    }

    // "if f 0 A = B, 1 not so, 4 A < B, 5 not so, 6 A < B unsigned, 7 not so"
    private void branches() {
        int[] left = {0, 1, 0, -1, 0, -1, LEAST, GREATEST, LEAST, LEAST, -1, 5};
        int[] right = {0, 0, 1, 0, -1, -1, GREATEST, LEAST, LEAST, -1, LEAST, 6};
        int[] same = {1, 0, 0, 0, 0, 1, 0, 0, 1, 0, 0, 0};
        int[] below = {0, 0, 1, 1, 0, 0, 1, 0, 0, 1, 0, 1};
        int[] belowUnsigned = {0, 0, 1, 0, 1, 0, 0, 1, 0, 1, 0, 1};
        for (int k = 0; k < left.length; k++) {
            branch(0, left[k], right[k], same[k] == 1);
            branch(1, left[k], right[k], same[k] == 0);
            branch(4, left[k], right[k], below[k] == 1);
            branch(5, left[k], right[k], below[k] == 0);
            branch(6, left[k], right[k], belowUnsigned[k] == 1);
            branch(7, left[k], right[k], belowUnsigned[k] == 0);
        }
    }

    private void branch(int f, int a, int b, boolean taken) {
        HartDesk x = deskAt(Asm.branch(f, 1, 2, -64));
        x.put(1, a);
        x.put(2, b);
        goesOn(x, 0, taken ? 64 : 132);
    }

    // "0 it would go on at an address that is not by 4": a branch that is not taken would not.
    private void branchesNotTaken() {
        goesOn(deskAt(Asm.branch(1, 0, 0, 2)), 0, 132);
        goesOn(deskAt(Asm.branch(4, 0, 0, -2)), 0, 132);
        goesOn(deskAt(Asm.branch(6, 0, 0, 4094)), 0, 132);
    }

    // "0 it would go on at an address that is not by 4 (VALUE that one; the PC in BACK is that of the jump)"
    private void notBy4() {
        traps(deskAt(Asm.jal(7, 2)), 0, 130);
        traps(deskAt(Asm.jal(7, -2)), 0, 126);
        traps(deskAt(Asm.jal(7, -130)), 0, -2);
        traps(deskAt(Asm.jal(7, 4094)), 0, 4222);
        traps(deskAt(Asm.branch(0, 1, 1, 2)), 0, 130);
        traps(deskAt(Asm.branch(5, 1, 1, -2)), 0, 126);
        int[] targets = {2, 6, 4094, 4098, GREATEST - 1, LEAST + 2, -2};
        for (int target : targets) {
            HartDesk x = deskAt(Asm.jalr(7, 1, 0));
            x.put(1, target);
            traps(x, 0, target);
        }
        HartDesk same = deskAt(Asm.jalr(1, 1, 2));
        same.put(1, 2048);
        traps(same, 0, 2050);
    }

    // "If VECTOR is 0: it STOPS (.. the PC stays)": at the jump, not where it would go.
    private void notBy4AndVector() {
        HartDesk x = new HartDesk();
        x.put(7, 70);
        check.same("step", Asm.doWordAt(x, 256, Asm.jal(7, 6)), 1);
        check.same("PC stays", x.register(32), 256);
        check.same("BACK", x.control(Asm.BACK), 256);
        check.same("VALUE", x.control(Asm.VALUE), 262);
        check.same("CAUSE", x.control(Asm.CAUSE), 0);
        check.same("stopped", x.state(0), 1);
        check.same("d stays", x.register(7), 70);
    }

    // "1 the PC is beyond MEMORY (VALUE the PC)": 4092 is not.
    private void beyondMemory() {
        int[] pcs = {4096, 4100, 8192, 65536, 1 << 30, GREATEST - 3, LEAST, LEAST + 4, -4096, -8, -4};
        for (int pc : pcs) {
            HartDesk x = Shown.fullDesk();
            x.put(32, pc);
            traps(x, 1, pc);
            HartDesk y = new HartDesk();
            y.put(32, pc);
            traps(y, 1, pc);
            check.same("PC stays", y.register(32), pc);
        }
        int[] good = {0, 4, 4088, 4092};
        for (int pc : good) {
            HartDesk x = Shown.fullDesk();
            x.set(pc, Asm.NOTHING);
            x.put(32, pc);
            goesOn(x, 0, pc + 4);
        }
    }

    // "1 the PC is beyond MEMORY": behind the last WORD too, which itself is done.
    private void offTheEnd() {
        HartDesk x = new HartDesk();
        x.set(4092, Asm.addi(1, 0, 5));
        x.put(32, 4092);
        check.same("run(9)", x.run(9), 2);
        check.same("the last one is done", x.register(1), 5);
        check.same("CAUSE", x.control(Asm.CAUSE), 1);
        check.same("VALUE", x.control(Asm.VALUE), 4096);
        check.same("BACK", x.control(Asm.BACK), 4096);
        check.same("PC stays", x.register(32), 4096);
    }

    // "1 the PC is beyond MEMORY": the jump there is done, the TRAP is the step behind it.
    private void jumpsBeyond() {
        HartDesk x = deskAt(Asm.jal(7, -132));
        goesOn(x, 7, -4);
        traps(x, 1, -4);
        HartDesk y = deskAt(Asm.branch(0, 0, 0, 4092));
        goesOn(y, 0, 4220);
        traps(y, 1, 4220);
    }

    // "103 (f 0)", "99 .. f 0, 1, 4, 5, 6, 7"; "Others: TRAP 2": also where the target is not by 4.
    private void otherForms() {
        for (int f = 1; f < 8; f++) {
            int word = Asm.i(103, 7, f, 0, 256);
            traps(deskAt(word), 2, word);
            int odd = Asm.i(103, 7, f, 0, 258);
            traps(deskAt(odd), 2, odd);
        }
        for (int f = 2; f <= 3; f++) {
            traps(deskAt(Asm.branch(f, 0, 0, 8)), 2, Asm.branch(f, 0, 0, 8));
            traps(deskAt(Asm.branch(f, 1, 2, 2)), 2, Asm.branch(f, 1, 2, 2));
        }
    }
}
