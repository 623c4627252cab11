/** Promise 6: reset(). */
final class ResetTest {
    public static void main(String[] args) {
        Check check = new Check();
        boolean[] both = {false, true};
        for (boolean all : both) {
            for (boolean up : both) {
                everythingUsed(check, all, up);
            }
            stopped(check, all);
            newObject(check, all);
            everyWord(check, all);
        }
        doneBeginsAnew(check);
        check.end();
    }

    private static HartDesk used() {
        HartDesk x = new HartDesk();
        // The trap comes first, as it would take STATUS, BACK and VALUE back to 0.
        Asm.doWord(x, Asm.CALL);
        for (int number : Asm.CONTROLS) {
            if (number != Asm.PENDING && number != Asm.DONE) {
                Asm.writeControl(x, number, -1);
            }
        }
        for (int k = 1; k < 32; k++) {
            x.put(k, k + 100);
        }
        for (int address : Asm.SOME_WORDS) {
            x.set(address, address + 1);
        }
        x.put(32, 64);
        return x;
    }

    private static void everythingUsed(Check check, boolean all, boolean up) {
        HartDesk x = used();
        x.line(up);
        int steps = x.state(1);
        check.same("steps ahead of it", steps, 8);
        for (int number : Asm.CONTROLS) {
            check.yes("control(" + number + ") ahead of it", x.control(number) != 0 || number == Asm.PENDING && !up);
        }
        x.reset(all);
        for (int k = 0; k <= 32; k++) {
            check.same("register(" + k + ")", x.register(k), 0);
        }
        for (int number : Asm.CONTROLS) {
            check.same("control(" + number + ")", x.control(number), number == Asm.PENDING && up ? 2048 : 0);
        }
        for (int address : Asm.SOME_WORDS) {
            check.same("word(" + address + ")", x.word(address), all ? 0 : address + 1);
        }
        check.same("state(0)", x.state(0), 0);
        check.same("state(1)", x.state(1), steps);
        check.same("state(2)", x.state(2), 0);
        check.same("state(3)", x.state(3), 0);
        check.same("state(4)", x.state(4), up ? 1 : 0);
    }

    private static void everyWord(Check check, boolean all) {
        for (int from = 0; from < 4096; from += 512) {
            HartDesk x = new HartDesk();
            for (int address = from; address < from + 512; address += 4) {
                x.set(address, ~address);
            }
            x.reset(all);
            for (int address = from; address < from + 512; address += 4) {
                check.same("word(" + address + ")", x.word(address), all ? 0 : ~address);
            }
        }
    }

    private static void stopped(Check check, boolean all) {
        HartDesk x = Asm.desk(Asm.addi(1, 0, 7), Asm.CALL);
        x.run(9);
        check.same("stopped", x.state(0), 1);
        x.reset(all);
        check.same("not stopped any more", x.state(0), 0);
        check.same("run", x.run(9), all ? 1 : 2);
        check.same("register(1)", x.register(1), all ? 0 : 7);
        check.same("CAUSE", x.control(Asm.CAUSE), all ? 2 : 11);
    }

    private static void newObject(Check check, boolean all) {
        HartDesk x = new HartDesk();
        x.reset(all);
        for (int what = 0; what <= 4; what++) {
            check.same("state(" + what + ")", x.state(what), 0);
        }
    }

    private static void doneBeginsAnew(Check check) {
        HartDesk x = Asm.desk(Asm.NOTHING, Asm.control(2, 1, 0, Asm.DONE), Asm.CALL);
        x.run(9);
        x.reset(false);
        x.run(9);
        check.same("DONE as read", x.register(1), 1);
        check.same("DONE", x.control(Asm.DONE), 2);
        check.same("state(1)", x.state(1), 6);
        check.same("state(2)", x.state(2), 2);
        check.same("state(3)", x.state(3), 1);
    }
}
