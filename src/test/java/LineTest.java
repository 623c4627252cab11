/** Promise 4: line(). */
final class LineTest {
    public static void main(String[] args) {
        Check check = new Check();
        HartDesk x = new HartDesk();
        boolean[] ups = {true, true, false, false, true, false};
        for (boolean up : ups) {
            x.line(up);
            check.same("state(4) at " + up, x.state(4), up ? 1 : 0);
            check.same("PENDING at " + up, x.control(Asm.PENDING), up ? 2048 : 0);
        }
        changesNothingElse(check);
        lineIsALevel(check);
        check.end();
    }

    private static void changesNothingElse(Check check) {
        HartDesk x = new HartDesk();
        x.run(1);
        x.line(true);
        check.same("still stopped", x.state(0), 1);
        check.same("run when stopped", x.run(1), 0);
        check.same("steps", x.state(1), 1);
        check.same("traps", x.state(3), 1);
        check.same("CAUSE", x.control(Asm.CAUSE), 2);
        check.same("STATUS", x.control(Asm.STATUS), 0);
        check.same("ENABLED", x.control(Asm.ENABLED), 0);
    }

    /** The line is looked at ahead of each instruction; what it was between is forgotten. */
    private static void lineIsALevel(Check check) {
        HartDesk x = new HartDesk();
        Asm.writeControl(x, Asm.VECTOR, 256);
        Asm.writeControl(x, Asm.ENABLED, 2048);
        Asm.writeControl(x, Asm.STATUS, 8);
        Asm.setAll(x, 4, Asm.NOTHING, Asm.NOTHING);
        x.line(true);
        x.line(false);
        x.run(1);
        check.same("no interrupt once it is down", x.register(32), 8);
        x.line(true);
        x.run(1);
        check.same("an interrupt when it is up", x.register(32), 256);
        check.same("the line is still up", x.state(4), 1);
    }
}
