/** Promise 9: word(). */
final class WordTest {
    public static void main(String[] args) {
        Check check = new Check();
        for (int address = 0; address <= 4092; address += 4) {
            HartDesk x = new HartDesk();
            x.set(address, ~address);
            check.same("word(" + address + ")", x.word(address), ~address);
        }
        for (int address = 0; address < 4096; address++) {
            if ((address & 3) != 0) {
                refused(check, address);
            }
        }
        int[] others = {4096, 4097, 4100, 8192, 65536, Integer.MAX_VALUE, Integer.MAX_VALUE - 3, Integer.MIN_VALUE,
            -1, -2, -3, -4, -4096};
        for (int address : others) {
            refused(check, address);
        }
        whatWasStored(check);
        check.end();
    }

    private static void refused(Check check, int address) {
        HartDesk x = new HartDesk();
        check.noSuchElement("word(" + address + ")", () -> x.word(address));
    }

    private static void whatWasStored(Check check) {
        HartDesk x = Asm.desk(Asm.store(0, 0, 1, 2000), Asm.store(0, 0, 2, 2001), Asm.store(1, 0, 3, 2002));
        x.put(1, 0x11);
        x.put(2, 0x22);
        x.put(3, 0x4433);
        x.run(3);
        check.same("the lowest byte first", x.word(2000), 0x44332211);
    }
}
