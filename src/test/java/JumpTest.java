/** Promise 5: ops 111, 103, 99, with TRAPS 0 and 1. */
final class JumpTest {
    private static final int START = 1024;

    public static void main(String[] args) {
        Check check = new Check();
        jumps(check);
        jumpsByRegister(check);
        sameRegister(check);
        branches(check);
        branchNumbers(check);
        notBy4(check);
        beyond(check);
        otherForms(check);
        check.end();
    }

    private static void jumps(Check check) {
        int[] bys = {0, 4, 8, 16, 2044, 2048, 2052, 4096, 65536, 524288, 1048572, -4, -1024, -2048, -4096, -524288,
            -1048576};
        for (int by : bys) {
            HartDesk x = new HartDesk();
            check.same("step", Asm.doWordAt(x, START, Asm.jal(7, by)), 1);
            check.same("jump by " + by, x.register(32), START + by);
            check.same("d", x.register(7), START + 4);
            check.same("done", x.state(2), 1);
        }
    }

    private static void jumpsByRegister(Check check) {
        int[] numbers = {0, 1, 4, 5, 2044, -4, -3, -2048, -2047};
        for (int number : numbers) {
            HartDesk x = new HartDesk();
            x.put(1, 2048);
            Asm.doWordAt(x, START, Asm.jalr(7, 1, number));
            check.same("jump to A + " + number, x.register(32), 2048 + number & ~1);
            check.same("d", x.register(7), START + 4);
        }
        HartDesk x = new HartDesk();
        x.put(1, 2049);
        Asm.doWordAt(x, START, Asm.jalr(7, 1, 3));
        check.same("an odd A", x.register(32), 2052);
        x.put(1, Integer.MAX_VALUE);
        Asm.doWordAt(x, START, Asm.jalr(7, 1, 1));
        check.same("A + I wraps", x.register(32), Integer.MIN_VALUE);
    }

    private static void sameRegister(Check check) {
        HartDesk x = new HartDesk();
        x.put(1, 256);
        Asm.doWordAt(x, START, Asm.jalr(1, 1, 8));
        check.same("A is taken ahead of d", x.register(32), 264);
        check.same("d", x.register(1), START + 4);
    }

    private static boolean due(int f, int x, int y) {
        switch (f) {
            case 0: return x == y;
            case 1: return x != y;
            case 4: return x < y;
            case 5: return x >= y;
            case 6: return Integer.compareUnsigned(x, y) < 0;
            default: return Integer.compareUnsigned(x, y) >= 0;
        }
    }

    private static void branches(Check check) {
        int[] ways = {0, 1, 4, 5, 6, 7};
        for (int f : ways) {
            for (int left : Asm.EDGES) {
                HartDesk x = new HartDesk();
                x.put(1, left);
                for (int right : Asm.EDGES) {
                    x.put(2, right);
                    Asm.doWordAt(x, START, Asm.branch(f, 1, 2, 64));
                    check.same("branch " + f + " of " + left + ", " + right, x.register(32),
                        due(f, left, right) ? START + 64 : START + 4);
                }
                check.same("done", x.state(2), Asm.EDGES.length);
            }
        }
    }

    private static void branchNumbers(Check check) {
        int[] bys = {0, 4, 8, 16, 28, 32, 1024, 2044, 2048, 4092, -4, -32, -1024, -2048, -4096};
        for (int by : bys) {
            HartDesk x = new HartDesk();
            for (int k = 1; k < 32; k++) {
                x.put(k, k);
            }
            Asm.doWordAt(x, START, Asm.branch(0, 0, 0, by));
            check.same("branch by " + by, x.register(32), START + by);
            for (int k = 1; k < 32; k++) {
                check.same("a branch writes no register", x.register(k), k);
            }
        }
    }

    private static void checkTrap(Check check, HartDesk x, int cause, int value, int back) {
        check.same("CAUSE", x.control(Asm.CAUSE), cause);
        check.same("VALUE", x.control(Asm.VALUE), value);
        check.same("BACK", x.control(Asm.BACK), back);
    }

    private static void notBy4(Check check) {
        HartDesk x = new HartDesk();
        x.put(7, 77);
        x.put(1, 2048);
        check.same("step", Asm.doWordAt(x, START, Asm.jal(7, 6)), 1);
        checkTrap(check, x, 0, START + 6, START);
        check.same("d stays", x.register(7), 77);
        check.same("PC stays", x.register(32), START);
        check.same("done", x.state(2), 0);
        Asm.doWordAt(x, START + 4, Asm.jalr(7, 1, 3));
        checkTrap(check, x, 0, 2050, START + 4);
        check.same("d stays", x.register(7), 77);
        Asm.doWordAt(x, START + 8, Asm.branch(0, 0, 0, -2));
        checkTrap(check, x, 0, START + 6, START + 8);
        check.same("traps", x.state(3), 3);
        Asm.doWordAt(x, START, Asm.branch(1, 0, 0, -2));
        check.same("a branch not taken does not trap", x.register(32), START + 4);
        check.same("traps", x.state(3), 3);
        Asm.doWordAt(x, START, Asm.jalr(1, 1, 2));
        check.same("A stays with d", x.register(1), 2048);
    }

    private static void beyond(Check check) {
        int[] pcs = {4096, 4100, 8192, 65536, Integer.MAX_VALUE - 3, Integer.MIN_VALUE, -4, -4096};
        for (int pc : pcs) {
            HartDesk x = new HartDesk();
            x.put(32, pc);
            check.same("step", x.run(3), 1);
            checkTrap(check, x, 1, pc, pc);
            check.same("PC stays", x.register(32), pc);
            check.same("done", x.state(2), 0);
            check.same("traps", x.state(3), 1);
        }
        HartDesk x = new HartDesk();
        x.set(4092, Asm.addi(1, 0, 1));
        x.put(32, 4092);
        check.same("off the end", x.run(5), 2);
        checkTrap(check, x, 1, 4096, 4096);
        check.same("the last word was done", x.register(1), 1);
        HartDesk y = new HartDesk();
        Asm.doWord(y, Asm.jal(7, -4));
        check.same("a jump beyond is done", y.register(7), 4);
        check.same("PC", y.register(32), -4);
        y.run(1);
        checkTrap(check, y, 1, -4, -4);
    }

    private static void otherForms(Check check) {
        int[] words = {Asm.i(103, 7, 1, 1, 0), Asm.i(103, 7, 2, 1, 0), Asm.i(103, 7, 7, 1, 0), Asm.branch(2, 0, 0, 8),
            Asm.branch(3, 0, 0, 8), Asm.branch(2, 0, 0, 2)};
        for (int word : words) {
            HartDesk x = new HartDesk();
            Asm.doWordAt(x, START, word);
            checkTrap(check, x, 2, word, START);
            check.same("d stays", x.register(7), 0);
        }
    }
}
