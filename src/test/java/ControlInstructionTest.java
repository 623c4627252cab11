/** Promise 5: the forms of op 115 that read and write CONTROLS, and what each CONTROL can hold. */
final class ControlInstructionTest {
    private static final int[] WRITABLE = {Asm.STATUS, Asm.ENABLED, Asm.VECTOR, Asm.SCRATCH, Asm.BACK, Asm.CAUSE, Asm.VALUE};
    private static final int[] HELD = {0x88, 0x800, ~3, -1, ~3, -1, -1};
    private static final int[] VALUES = {0, 1, 2, 3, 4, 7, 8, 0x80, 0x88, 0x800, 0x888, 0x12345678, 0x7FFFFFFF,
        0x80000000, 0x55555555, 0xAAAAAAAA, -1, -2, -3, -4};

    public static void main(String[] args) {
        Check check = new Check();
        everyWay(check);
        sameRegister(check);
        nothingWritten(check);
        valueZeroIsWritten(check);
        pending(check);
        done(check);
        otherNumbers(check);
        otherForms(check);
        check.end();
    }

    private static int changed(int f, int before, int operand) {
        int way = f & 3;
        return way == 1 ? operand : way == 2 ? before | operand : before & ~operand;
    }

    private static void everyWay(Check check) {
        int[] ways = {1, 2, 3};
        for (int k = 0; k < WRITABLE.length; k++) {
            for (int f : ways) {
                for (int start : VALUES) {
                    byRegister(check, WRITABLE[k], HELD[k], f, start);
                    byNumber(check, WRITABLE[k], HELD[k], f + 4, start);
                }
            }
        }
    }

    private static void byRegister(Check check, int number, int held, int f, int start) {
        for (int operand : VALUES) {
            HartDesk x = new HartDesk();
            Asm.writeControl(x, number, start);
            check.same("control(" + number + ")", x.control(number), start & held);
            x.put(9, operand);
            Asm.doWord(x, Asm.control(f, 10, 9, number));
            check.same("d has what it had", x.register(10), start & held);
            check.same("control(" + number + ") by f " + f, x.control(number),
                changed(f, start & held, operand) & held);
            check.same("A stays", x.register(9), operand);
            othersStay(check, x, number);
        }
    }

    private static void othersStay(Check check, HartDesk x, int number) {
        for (int other : WRITABLE) {
            if (other != number) {
                check.same("control(" + other + ") stays", x.control(other), 0);
            }
        }
        check.same("done", x.state(2), 2);
        check.same("PC", x.register(32), 4);
    }

    private static void byNumber(Check check, int number, int held, int f, int start) {
        for (int operand = 1; operand < 32; operand++) {
            HartDesk x = new HartDesk();
            Asm.writeControl(x, number, start);
            x.put(operand, -1);
            Asm.doWord(x, Asm.control(f, operand == 10 ? 11 : 10, operand, number));
            check.same("d has what it had", x.register(operand == 10 ? 11 : 10), start & held);
            check.same("control(" + number + ") by f " + f, x.control(number),
                changed(f, start & held, operand) & held);
            othersStay(check, x, number);
        }
    }

    private static void sameRegister(Check check) {
        HartDesk x = new HartDesk();
        Asm.writeControl(x, Asm.SCRATCH, 77);
        x.put(5, 88);
        Asm.doWord(x, Asm.control(1, 5, 5, Asm.SCRATCH));
        check.same("what it had goes to d", x.register(5), 77);
        check.same("A goes to it", x.control(Asm.SCRATCH), 88);
        x.put(5, 3);
        Asm.doWord(x, Asm.control(2, 5, 5, Asm.SCRATCH));
        check.same("what it had goes to d", x.register(5), 88);
        check.same("with A's bits", x.control(Asm.SCRATCH), 91);
        x.put(5, 3);
        Asm.doWord(x, Asm.control(3, 5, 5, Asm.SCRATCH));
        check.same("what it had goes to d", x.register(5), 91);
        check.same("without A's bits", x.control(Asm.SCRATCH), 88);
    }

    private static void nothingWritten(Check check) {
        int[] ways = {2, 3, 6, 7};
        for (int f : ways) {
            HartDesk x = new HartDesk();
            x.line(true);
            Asm.writeControl(x, Asm.SCRATCH, -5);
            Asm.doWord(x, Asm.control(f, 4, 0, Asm.SCRATCH));
            check.same("read", x.register(4), -5);
            check.same("stays", x.control(Asm.SCRATCH), -5);
            Asm.doWord(x, Asm.control(f, 4, 0, Asm.PENDING));
            check.same("PENDING read", x.register(4), 2048);
            Asm.doWord(x, Asm.control(f, 4, 0, Asm.DONE));
            check.same("DONE read", x.register(4), 3);
            check.same("traps", x.state(3), 0);
        }
        int[] writing = {1, 5};
        for (int f : writing) {
            HartDesk x = new HartDesk();
            Asm.writeControl(x, Asm.SCRATCH, -5);
            Asm.doWord(x, Asm.control(f, 0, 0, Asm.SCRATCH));
            check.same("1 and 5 write 0 with a 0", x.control(Asm.SCRATCH), 0);
        }
    }

    /** It is the field a that counts, not what the register has. */
    private static void valueZeroIsWritten(Check check) {
        int[] ways = {2, 3};
        for (int f : ways) {
            HartDesk x = new HartDesk();
            refused(check, x, Asm.control(f, 4, 9, Asm.PENDING));
        }
    }

    private static void refused(Check check, HartDesk x, int word) {
        int traps = x.state(3);
        int done = x.state(2);
        x.put(4, 44);
        check.same("step", Asm.doWordAt(x, 20, word), 1);
        check.same("CAUSE", x.control(Asm.CAUSE), 2);
        check.same("VALUE", x.control(Asm.VALUE), word);
        check.same("BACK", x.control(Asm.BACK), 20);
        check.same("traps", x.state(3), traps + 1);
        check.same("done", x.state(2), done);
        check.same("d stays", x.register(4), 44);
    }

    private static void pending(Check check) {
        boolean[] ups = {false, true};
        int[] ways = {1, 2, 3, 5, 6, 7};
        for (boolean up : ups) {
            HartDesk x = new HartDesk();
            x.line(up);
            x.put(9, 2048);
            for (int f : ways) {
                refused(check, x, Asm.control(f, 4, 9, Asm.PENDING));
                refused(check, x, Asm.control(f, 4, 9, Asm.DONE));
            }
            refused(check, x, Asm.control(1, 4, 0, Asm.PENDING));
            refused(check, x, Asm.control(5, 4, 0, Asm.PENDING));
            refused(check, x, Asm.control(1, 4, 0, Asm.DONE));
            refused(check, x, Asm.control(5, 4, 0, Asm.DONE));
            check.same("the line stays", x.state(4), up ? 1 : 0);
        }
    }

    private static void done(Check check) {
        HartDesk x = Asm.desk(Asm.NOTHING, Asm.control(2, 1, 0, Asm.DONE), Asm.control(2, 2, 0, Asm.DONE), Asm.CALL);
        x.run(4);
        check.same("the one at hand is not counted", x.register(1), 1);
        check.same("the next one", x.register(2), 2);
        check.same("a trap is none done", x.control(Asm.DONE), 3);
        check.same("state(2)", x.state(2), 3);
    }

    private static void otherNumbers(Check check) {
        for (int number = 0; number < 4096; number++) {
            if (!Asm.isControl(number)) {
                HartDesk x = new HartDesk();
                refused(check, x, Asm.control(2, 4, 0, number));
                refused(check, x, Asm.control(7, 4, 0, number));
                refused(check, x, Asm.control(1, 4, 9, number));
                refused(check, x, Asm.control(6, 4, 9, number));
            }
        }
    }

    private static void otherForms(Check check) {
        for (int number : Asm.CONTROLS) {
            HartDesk x = new HartDesk();
            refused(check, x, Asm.control(4, 4, 0, number));
            refused(check, x, Asm.control(4, 4, 9, number));
            refused(check, x, Asm.control(0, 4, 0, number));
        }
        int[] words = {115 | 1 << 7, 115 | 1 << 15, 115 | 2 << 20, Asm.BREAK | 1 << 7, Asm.BREAK | 1 << 15,
            Asm.RETURN | 1 << 7, Asm.RETURN | 1 << 15, 0x10500073, 0x10200073, 0x00200073};
        for (int word : words) {
            refused(check, new HartDesk(), word);
        }
    }
}
