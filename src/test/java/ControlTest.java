/** Promise 8: control(). */
final class ControlTest {
    public static void main(String[] args) {
        Check check = new Check();
        allOfThem(check);
        otherNumbers(check);
        check.end();
    }

    private static void allOfThem(Check check) {
        HartDesk x = new HartDesk();
        int[] due = {0x80, 0x800, 0x7654321C, 0x7654321F, 0x7654321C, 0x7654321F, 0x7654321F};
        for (int k = 0; k < due.length; k++) {
            Asm.writeControl(x, Asm.CONTROLS[k], k < 2 ? 0xFFFFFFF7 : 0x7654321F);
        }
        x.line(true);
        for (int k = 0; k < due.length; k++) {
            check.same("control(" + Asm.CONTROLS[k] + ")", x.control(Asm.CONTROLS[k]), due[k]);
        }
        check.same("PENDING", x.control(836), 2048);
        x.line(false);
        check.same("PENDING", x.control(836), 0);
        check.same("DONE", x.control(2816), 7);
        Asm.writeControl(x, Asm.STATUS, -1);
        check.same("STATUS", x.control(768), 136);
        check.same("reading counts as nothing done", x.control(2816), 8);
    }

    private static void otherNumbers(Check check) {
        for (int number = -5000; number < 10000; number++) {
            if (!Asm.isControl(number)) {
                refused(check, number);
            }
        }
        int[] others = {Integer.MAX_VALUE, Integer.MIN_VALUE, 768 + 4096, 768 - 4096, 768 + 65536, 768 | 1 << 31};
        for (int number : others) {
            refused(check, number);
        }
    }

    private static void refused(Check check, int number) {
        HartDesk x = new HartDesk();
        check.noSuchElement("control(" + number + ")", () -> x.control(number));
    }
}
