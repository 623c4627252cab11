/** Promise 3: put(). */
final class PutTest {
    public static void main(String[] args) {
        Check check = new Check();
        registers(check);
        thePc(check);
        refusedOnes(check);
        afterAStop(check);
        check.end();
    }

    private static void registers(Check check) {
        HartDesk x = new HartDesk();
        for (int k = 1; k <= 31; k++) {
            check.yes("put(" + k + ")", x.put(k, k * -1234567));
        }
        for (int k = 1; k <= 31; k++) {
            check.same("register(" + k + ")", x.register(k), k * -1234567);
        }
        check.same("register(0)", x.register(0), 0);
        check.same("PC", x.register(32), 0);
        check.yes("put(31, least)", x.put(31, Integer.MIN_VALUE));
        check.same("register(31)", x.register(31), Integer.MIN_VALUE);
        check.yes("an odd value in a register", x.put(1, 3));
        check.same("register(1)", x.register(1), 3);
    }

    private static void thePc(Check check) {
        HartDesk x = new HartDesk();
        int[] by4 = {0, 4, 8, 4092, 4096, 65536, Integer.MIN_VALUE, Integer.MAX_VALUE - 3, -4, -8};
        for (int v : by4) {
            check.yes("put(32, " + v + ")", x.put(32, v));
            check.same("PC", x.register(32), v);
        }
        x.put(32, 16);
        int[] others = {1, 2, 3, 5, 6, 7, -1, -2, -3, Integer.MAX_VALUE, 4095, 4094};
        for (int v : others) {
            check.no("put(32, " + v + ")", x.put(32, v));
            check.same("PC stays", x.register(32), 16);
        }
    }

    private static void refusedOnes(Check check) {
        HartDesk x = new HartDesk();
        int[] others = {0, -1, -2, 33, 34, 63, 64, 65, 1000, Integer.MAX_VALUE, Integer.MIN_VALUE, Integer.MIN_VALUE + 1};
        for (int k : others) {
            check.no("put(" + k + ")", x.put(k, 4));
        }
        for (int k = 0; k <= 32; k++) {
            check.same("register(" + k + ") after refusals", x.register(k), 0);
        }
    }

    private static void afterAStop(Check check) {
        HartDesk x = Asm.desk(0, Asm.addi(1, 1, 1), Asm.addi(1, 1, 1));
        check.same("run into the stop", x.run(3), 1);
        check.yes("put(1)", x.put(1, 10));
        check.same("a register does not start it", x.state(0), 1);
        check.no("put(32, 6)", x.put(32, 6));
        check.same("a refused PC does not start it", x.state(0), 1);
        check.no("put(0, 4)", x.put(0, 4));
        check.no("put(33, 4)", x.put(33, 4));
        check.same("refusals do not start it", x.state(0), 1);
        check.same("run when stopped", x.run(3), 0);
        check.yes("put(32, 4)", x.put(32, 4));
        check.same("the PC starts it", x.state(0), 0);
        check.same("the cause stays", x.control(Asm.CAUSE), 2);
        check.same("traps stay", x.state(3), 1);
        check.same("run", x.run(2), 2);
        check.same("register(1)", x.register(1), 12);
        check.same("PC", x.register(32), 12);
        samePcAgain(check);
    }

    private static void samePcAgain(Check check) {
        HartDesk x = new HartDesk();
        x.run(1);
        x.put(32, 0);
        check.same("the same PC starts it too", x.state(0), 0);
        check.same("and it stops anew", x.run(5), 1);
        check.same("traps", x.state(3), 2);
    }
}
