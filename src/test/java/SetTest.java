/** Promise 2: set(). */
final class SetTest {
    private static final int[] REFUSED = {1, 2, 3, 5, 6, 7, 4093, 4094, 4095, 4096, 4097, 4100, 8192, 65536,
        Integer.MAX_VALUE, Integer.MAX_VALUE - 3, Integer.MIN_VALUE, -1, -2, -3, -4, -8, -4096};

    public static void main(String[] args) {
        Check check = new Check();
        everyAddress(check);
        refusedOnes(check);
        lowestByteFirst(check);
        whileItRunsAndStands(check);
        check.end();
    }

    private static void everyAddress(Check check) {
        for (int from = 0; from < 4096; from += 512) {
            everyAddressOf(check, from);
        }
        HartDesk x = new HartDesk();
        x.set(4088, 5);
        x.set(4092, 6);
        check.yes("set anew", x.set(4092, Integer.MIN_VALUE));
        check.same("word(4092)", x.word(4092), Integer.MIN_VALUE);
        check.same("word(4088)", x.word(4088), 5);
    }

    private static void everyAddressOf(Check check, int from) {
        HartDesk x = new HartDesk();
        for (int address = from; address < from + 512; address += 4) {
            check.yes("set(" + address + ")", x.set(address, address * 31 - 77777));
        }
        for (int address = from; address < from + 512; address += 4) {
            check.same("word(" + address + ")", x.word(address), address * 31 - 77777);
        }
        for (int address : Asm.SOME_WORDS) {
            if (address < from || address >= from + 512) {
                check.same("word(" + address + ") stays", x.word(address), 0);
            }
        }
    }

    private static void refusedOnes(Check check) {
        HartDesk x = new HartDesk();
        for (int address : REFUSED) {
            check.no("set(" + address + ")", x.set(address, -1));
        }
        for (int address : Asm.SOME_WORDS) {
            check.same("word(" + address + ") after refusals", x.word(address), 0);
        }
    }

    private static void lowestByteFirst(Check check) {
        HartDesk x = Asm.desk(Asm.load(4, 1, 0, 100), Asm.load(4, 2, 0, 101), Asm.load(4, 3, 0, 102),
            Asm.load(4, 4, 0, 103));
        x.set(100, 0x84736251);
        x.run(4);
        check.same("byte 0", x.register(1), 0x51);
        check.same("byte 1", x.register(2), 0x62);
        check.same("byte 2", x.register(3), 0x73);
        check.same("byte 3", x.register(4), 0x84);
    }

    private static void whileItRunsAndStands(Check check) {
        HartDesk x = new HartDesk();
        x.run(1);
        check.same("stopped", x.state(0), 1);
        check.yes("set(0) when stopped", x.set(0, Asm.addi(1, 0, 9)));
        check.same("set() does not start it", x.state(0), 1);
        x.put(32, 0);
        x.run(1);
        check.same("what was set is done", x.register(1), 9);
    }
}
