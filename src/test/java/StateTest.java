/** Promise 10: state(). */
final class StateTest {
    public static void main(String[] args) {
        Check check = new Check();
        counts(check);
        others(check);
        check.end();
    }

    private static void states(Check check, HartDesk x, int... due) {
        for (int what = 0; what < due.length; what++) {
            check.same("state(" + what + ")", x.state(what), due[what]);
        }
    }

    private static void counts(Check check) {
        HartDesk x = Asm.desk(Asm.NOTHING, Asm.NOTHING, Asm.CALL);
        states(check, x, 0, 0, 0, 0, 0);
        x.run(2);
        states(check, x, 0, 2, 2, 0, 0);
        x.run(2);
        states(check, x, 1, 3, 2, 1, 0);
        x.line(true);
        x.run(2);
        states(check, x, 1, 3, 2, 1, 1);
        x.put(32, 4);
        states(check, x, 0, 3, 2, 1, 1);
        x.run(9);
        states(check, x, 1, 5, 3, 2, 1);
        x.reset(false);
        states(check, x, 0, 5, 0, 0, 1);
        x.run(9);
        states(check, x, 1, 8, 2, 1, 1);
        x.reset(true);
        x.line(false);
        states(check, x, 0, 8, 0, 0, 0);
        x.run(9);
        states(check, x, 1, 9, 0, 1, 0);
    }

    private static void others(Check check) {
        HartDesk x = Asm.desk(Asm.NOTHING);
        x.run(1);
        int[] whats = {-1, -2, -5, 5, 6, 32, 768, Integer.MAX_VALUE, Integer.MIN_VALUE};
        for (int what : whats) {
            check.same("state(" + what + ")", x.state(what), HartDesk.NONE);
        }
        check.same("NONE", HartDesk.NONE, -1);
    }
}
