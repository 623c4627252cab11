/** Promise 5: AN INTERRUPT. */
final class InterruptTest {
    private static final int AT = 128;
    private static final int VECTOR = 1024;

    public static void main(String[] args) {
        Check check = new Check();
        allThreeAreNeeded(check);
        aheadOfTheInstruction(check);
        aheadOfTraps(check);
        rightBehindTheWrite(check);
        notInsideTheTrap(check);
        stops(check);
        check.end();
    }

    private static HartDesk deskWith(int vector, int enabled, int status) {
        HartDesk x = new HartDesk();
        Asm.writeControl(x, Asm.VECTOR, vector);
        Asm.writeControl(x, Asm.ENABLED, enabled);
        Asm.writeControl(x, Asm.STATUS, status);
        Asm.setAll(x, AT, Asm.addi(1, 1, 1), Asm.addi(1, 1, 1));
        x.put(32, AT);
        return x;
    }

    private static void allThreeAreNeeded(Check check) {
        int[] statuses = {0, 8, 128, 136};
        int[] enableds = {0, 2048};
        boolean[] ups = {false, true};
        for (int status : statuses) {
            for (int enabled : enableds) {
                for (boolean up : ups) {
                    HartDesk x = deskWith(VECTOR, enabled, status);
                    x.line(up);
                    x.run(1);
                    boolean due = up && enabled != 0 && (status & 8) != 0;
                    check.same("PC", x.register(32), due ? VECTOR : AT + 4);
                    check.same("traps", x.state(3), due ? 1 : 0);
                    check.same("register(1)", x.register(1), due ? 0 : 1);
                }
            }
        }
    }

    private static void aheadOfTheInstruction(Check check) {
        HartDesk x = deskWith(VECTOR, 2048, 8);
        Asm.setAll(x, VECTOR, Asm.addi(2, 2, 1), Asm.RETURN);
        x.line(true);
        check.same("run", x.run(1), 1);
        check.same("CAUSE", x.control(Asm.CAUSE), Asm.INTERRUPT);
        check.same("VALUE", x.control(Asm.VALUE), 0);
        check.same("BACK", x.control(Asm.BACK), AT);
        check.same("STATUS", x.control(Asm.STATUS), 128);
        check.same("done", x.state(2), 3);
        check.same("steps", x.state(1), 4);
        check.same("register(1)", x.register(1), 0);
        x.line(false);
        x.run(2);
        check.same("back at the instruction", x.register(32), AT);
        check.same("STATUS", x.control(Asm.STATUS), 136);
        x.run(2);
        check.same("it is done now", x.register(1), 2);
    }

    private static void aheadOfTraps(Check check) {
        HartDesk x = deskWith(VECTOR, 2048, 8);
        Asm.setAll(x, AT, Asm.CALL);
        x.line(true);
        x.run(1);
        check.same("ahead of TRAP 11", x.control(Asm.CAUSE), Asm.INTERRUPT);
        HartDesk y = deskWith(VECTOR, 2048, 8);
        y.put(32, 8192);
        y.line(true);
        y.run(1);
        check.same("ahead of TRAP 1", y.control(Asm.CAUSE), Asm.INTERRUPT);
        check.same("BACK", y.control(Asm.BACK), 8192);
        check.same("VALUE", y.control(Asm.VALUE), 0);
        check.same("traps", y.state(3), 1);
    }

    private static void rightBehindTheWrite(Check check) {
        HartDesk x = deskWith(VECTOR, 2048, 0);
        x.line(true);
        Asm.setAll(x, AT, Asm.control(6, 0, 8, Asm.STATUS), Asm.addi(1, 1, 1));
        x.run(2);
        check.same("the write is done", x.state(2), 4);
        check.same("CAUSE", x.control(Asm.CAUSE), Asm.INTERRUPT);
        check.same("BACK", x.control(Asm.BACK), AT + 4);
        check.same("register(1)", x.register(1), 0);
    }

    private static void notInsideTheTrap(Check check) {
        HartDesk x = deskWith(VECTOR, 2048, 8);
        Asm.setAll(x, VECTOR, Asm.addi(2, 2, 1), Asm.RETURN);
        x.line(true);
        x.run(9);
        check.same("it comes again behind each BACK", x.state(3), 3);
        check.same("inside it goes on", x.register(2), 3);
        check.same("the instruction waits", x.register(1), 0);
        check.same("PC", x.register(32), AT);
    }

    private static void stops(Check check) {
        HartDesk x = deskWith(0, 2048, 8);
        x.line(true);
        check.same("run", x.run(5), 1);
        check.same("stopped", x.state(0), 1);
        check.same("CAUSE", x.control(Asm.CAUSE), Asm.INTERRUPT);
        check.same("BACK", x.control(Asm.BACK), AT);
        check.same("PC", x.register(32), AT);
        check.same("STATUS", x.control(Asm.STATUS), 128);
        check.same("traps", x.state(3), 1);
        x.put(32, AT);
        check.same("bit 3 is 0, so it goes on", x.run(2), 2);
        check.same("register(1)", x.register(1), 2);
    }
}
