/** Promise 5: how it comes to a TRAP, and BACK. */
final class TrapTest {
    private static final int AT = 128;
    private static final int VECTOR = 1024;

    public static void main(String[] args) {
        Check check = new Check();
        everyTrap(check);
        statusBits(check);
        stops(check);
        back(check);
        thereAndBack(check);
        vectorBeyond(check);
        unknownOps(check);
        check.end();
    }

    private static HartDesk deskWith(int vector, int status) {
        HartDesk x = new HartDesk();
        Asm.writeControl(x, Asm.VECTOR, vector);
        Asm.writeControl(x, Asm.STATUS, status);
        x.put(1, 2);
        x.put(2, 4096);
        return x;
    }

    private static void everyTrap(Check check) {
        int unknown = 0x12345000;
        oneTrap(check, Asm.jal(3, 2), 0, AT + 2);
        oneTrap(check, unknown, 2, unknown);
        oneTrap(check, 0, 2, 0);
        oneTrap(check, -1, 2, -1);
        oneTrap(check, Asm.BREAK, 3, AT);
        oneTrap(check, Asm.load(2, 3, 1, 0), 4, 2);
        oneTrap(check, Asm.load(2, 3, 2, 0), 5, 4096);
        oneTrap(check, Asm.store(2, 1, 3, 0), 6, 2);
        oneTrap(check, Asm.store(2, 2, 3, 0), 7, 4096);
        oneTrap(check, Asm.CALL, 11, 0);
    }

    private static void oneTrap(Check check, int word, int cause, int value) {
        int[] vectors = {VECTOR, 0};
        for (int vector : vectors) {
            HartDesk x = deskWith(vector, 8);
            Asm.writeControl(x, Asm.VALUE, 0x7777);
            check.same("step", Asm.doWordAt(x, AT, word), 1);
            check.same("CAUSE", x.control(Asm.CAUSE), cause);
            check.same("VALUE of " + cause, x.control(Asm.VALUE), value);
            check.same("BACK", x.control(Asm.BACK), AT);
            check.same("STATUS", x.control(Asm.STATUS), 128);
            check.same("VECTOR stays", x.control(Asm.VECTOR), vector);
            check.same("PC", x.register(32), vector == 0 ? AT : VECTOR);
            check.same("stopped", x.state(0), vector == 0 ? 1 : 0);
            check.same("steps", x.state(1), 4);
            check.same("done", x.state(2), 3);
            check.same("DONE", x.control(Asm.DONE), 3);
            check.same("traps", x.state(3), 1);
            check.same("d stays", x.register(3), 0);
        }
    }

    private static void statusBits(Check check) {
        int[] before = {0, 8, 128, 136};
        int[] behind = {0, 128, 0, 128};
        for (int k = 0; k < 4; k++) {
            HartDesk x = deskWith(VECTOR, before[k]);
            Asm.doWordAt(x, AT, Asm.CALL);
            check.same("STATUS " + before[k] + " in a trap", x.control(Asm.STATUS), behind[k]);
            HartDesk y = deskWith(0, before[k]);
            Asm.doWordAt(y, AT, Asm.CALL);
            check.same("STATUS " + before[k] + " in a stop", y.control(Asm.STATUS), behind[k]);
        }
        int[] returned = {128, 128, 136, 136};
        for (int k = 0; k < 4; k++) {
            HartDesk x = deskWith(VECTOR, before[k]);
            Asm.doWordAt(x, AT, Asm.RETURN);
            check.same("STATUS " + before[k] + " at BACK", x.control(Asm.STATUS), returned[k]);
        }
    }

    private static void stops(Check check) {
        HartDesk x = Asm.desk(Asm.NOTHING, Asm.BREAK);
        check.same("run", x.run(9), 2);
        check.same("stopped", x.state(0), 1);
        check.same("CAUSE", x.control(Asm.CAUSE), 3);
        check.same("VALUE", x.control(Asm.VALUE), 4);
        check.same("BACK", x.control(Asm.BACK), 4);
        check.same("PC stays", x.register(32), 4);
        x.set(4, Asm.NOTHING);
        check.same("another word does not start it", x.run(1), 0);
        HartDesk y = new HartDesk();
        Asm.writeControl(y, Asm.VECTOR, 3);
        check.same("VECTOR 3 is 0", Asm.doWord(y, Asm.CALL), 1);
        check.same("so it stops", y.state(0), 1);
    }

    private static void back(Check check) {
        HartDesk x = new HartDesk();
        Asm.writeControl(x, Asm.BACK, 2007);
        check.same("step", Asm.doWordAt(x, AT, Asm.RETURN), 1);
        check.same("on at BACK", x.register(32), 2004);
        check.same("BACK stays", x.control(Asm.BACK), 2004);
        check.same("it counts as done", x.state(2), 2);
        check.same("no trap", x.state(3), 0);
        check.same("CAUSE stays", x.control(Asm.CAUSE), 0);
        Asm.writeControl(x, Asm.BACK, -4);
        Asm.doWordAt(x, AT, Asm.RETURN);
        check.same("BACK may be beyond", x.register(32), -4);
        x.run(1);
        check.same("then TRAP 1", x.control(Asm.CAUSE), 1);
        check.same("VALUE", x.control(Asm.VALUE), -4);
    }

    private static void thereAndBack(Check check) {
        HartDesk x = deskWith(VECTOR, 8);
        Asm.setAll(x, AT, Asm.CALL, Asm.addi(5, 0, 55));
        Asm.setAll(x, VECTOR, Asm.control(2, 6, 0, Asm.BACK), Asm.addi(6, 6, 4), Asm.control(1, 0, 6, Asm.BACK),
            Asm.RETURN);
        x.put(32, AT);
        check.same("run", x.run(6), 6);
        check.same("behind the call", x.register(5), 55);
        check.same("PC", x.register(32), AT + 8);
        check.same("STATUS is as before, with bit 7", x.control(Asm.STATUS), 136);
        check.same("traps", x.state(3), 1);
        check.same("done", x.state(2), 7);
    }

    private static void vectorBeyond(Check check) {
        HartDesk x = deskWith(65536, 0);
        Asm.doWordAt(x, AT, Asm.CALL);
        check.same("on at VECTOR", x.register(32), 65536);
        check.same("run", x.run(10), 10);
        check.same("PC", x.register(32), 65536);
        check.same("CAUSE", x.control(Asm.CAUSE), 1);
        check.same("VALUE", x.control(Asm.VALUE), 65536);
        check.same("BACK", x.control(Asm.BACK), 65536);
        check.same("traps", x.state(3), 11);
        check.same("not stopped", x.state(0), 0);
    }

    private static void unknownOps(Check check) {
        for (int op = 0; op < 128; op++) {
            if (isKnown(op)) {
                continue;
            }
            int[] words = {op, op | 0x00208180, op | 0xFFFFFF80};
            for (int word : words) {
                HartDesk x = new HartDesk();
                x.put(3, 33);
                Asm.doWordAt(x, AT, word);
                check.same("CAUSE of op " + op, x.control(Asm.CAUSE), 2);
                check.same("VALUE of op " + op, x.control(Asm.VALUE), word);
                check.same("register(3)", x.register(3), 33);
            }
        }
    }

    private static boolean isKnown(int op) {
        int[] known = {55, 23, 111, 103, 99, 3, 35, 19, 51, 15, 115};
        for (int each : known) {
            if (each == op) {
                return true;
            }
        }
        return false;
    }
}
