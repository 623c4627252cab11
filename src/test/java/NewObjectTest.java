/** Promise 1: in a new object all is 0. */
final class NewObjectTest {
    public static void main(String[] args) {
        Check check = new Check();
        HartDesk x = new HartDesk();
        for (int k = 0; k <= 32; k++) {
            check.same("register(" + k + ")", x.register(k), 0);
        }
        for (int number : Asm.CONTROLS) {
            check.same("control(" + number + ")", x.control(number), 0);
        }
        for (int what = 0; what <= 4; what++) {
            check.same("state(" + what + ")", x.state(what), 0);
        }
        check.same("NONE", HartDesk.NONE, -1);
        everyWord(check);
        objectsAreApart(check);
        check.end();
    }

    private static void everyWord(Check check) {
        HartDesk x = new HartDesk();
        for (int address = 0; address < 4096; address += 4) {
            if (address % 2000 == 0) {
                x = new HartDesk();
            }
            check.same("word(" + address + ")", x.word(address), 0);
        }
    }

    private static void objectsAreApart(Check check) {
        HartDesk first = new HartDesk();
        HartDesk second = new HartDesk();
        first.set(8, 5);
        first.put(1, 6);
        first.put(32, 12);
        first.line(true);
        Asm.writeControl(first, Asm.SCRATCH, 7);
        check.same("word of the second", second.word(8), 0);
        check.same("register of the second", second.register(1), 0);
        check.same("PC of the second", second.register(32), 0);
        check.same("line of the second", second.state(4), 0);
        check.same("steps of the second", second.state(1), 0);
        check.same("scratch of the second", second.control(Asm.SCRATCH), 0);
    }
}
