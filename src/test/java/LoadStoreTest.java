/** Promise 5: ops 3 and 35, with TRAPS 4 to 7. */
final class LoadStoreTest {
    private static final int AT = 512;
    private static final int[] FAR = {4096, 4100, 65536, Integer.MAX_VALUE - 3, Integer.MIN_VALUE, -4, -2048};

    public static void main(String[] args) {
        Check check = new Check();
        loads(check);
        stores(check);
        ends(check);
        wraps(check);
        loadTraps(check);
        storeTraps(check);
        otherForms(check);
        ownCode(check);
        check.end();
    }

    private static int loaded(HartDesk x, int f, int address) {
        x.put(1, address + 16);
        x.put(2, 123456789);
        Asm.doWord(x, Asm.load(f, 2, 1, -16));
        return x.register(2);
    }

    private static void loads(Check check) {
        HartDesk x = new HartDesk();
        Asm.setAll(x, AT, 0x81F27304, 0x7F80FF01);
        int[] bytes = {0x04, 0x73, 0xF2, 0x81, 0x01, 0xFF, 0x80, 0x7F};
        for (int k = 0; k < 8; k++) {
            check.same("byte with sign", loaded(x, 0, AT + k), (byte) bytes[k]);
            check.same("byte without", loaded(x, 4, AT + k), bytes[k]);
        }
        for (int k = 0; k < 8; k += 2) {
            int half = bytes[k] | bytes[k + 1] << 8;
            check.same("half with sign", loaded(x, 1, AT + k), (short) half);
            check.same("half without", loaded(x, 5, AT + k), half);
        }
        check.same("word", loaded(x, 2, AT), 0x81F27304);
        check.same("word", loaded(x, 2, AT + 4), 0x7F80FF01);
        check.same("done", x.state(2), 26);
        check.same("traps", x.state(3), 0);
    }

    private static HartDesk stored(int f, int address) {
        HartDesk x = new HartDesk();
        Asm.setAll(x, AT - 4, 0x11223344, 0x55667788, 0x99AABBCC, 0xDDEEFF00);
        x.put(1, address - 16);
        x.put(2, 0x0A0B8C8D);
        Asm.doWord(x, Asm.store(f, 1, 2, 16));
        return x;
    }

    private static void stores(Check check) {
        int[] byteDue = {0x5566778D, 0x55668D88, 0x558D7788, 0x8D667788};
        for (int k = 0; k < 4; k++) {
            checkWords(check, stored(0, AT + k), byteDue[k]);
        }
        checkWords(check, stored(1, AT), 0x55668C8D);
        checkWords(check, stored(1, AT + 2), 0x8C8D7788);
        checkWords(check, stored(2, AT), 0x0A0B8C8D);
    }

    private static void checkWords(Check check, HartDesk x, int due) {
        check.same("word ahead", x.word(AT - 4), 0x11223344);
        check.same("word stored", x.word(AT), due);
        check.same("word behind", x.word(AT + 4), 0x99AABBCC);
        check.same("PC", x.register(32), 4);
        check.same("B stays", x.register(2), 0x0A0B8C8D);
        check.same("traps", x.state(3), 0);
    }

    private static void ends(Check check) {
        HartDesk x = new HartDesk();
        x.set(4092, 0x80706050);
        check.same("last byte", loaded(x, 4, 4095), 0x80);
        check.same("last half", loaded(x, 5, 4094), 0x8070);
        check.same("last word", loaded(x, 2, 4092), 0x80706050);
        check.same("first byte", loaded(x, 4, 0), Asm.load(4, 2, 1, -16) & 255);
        x.put(1, 0);
        x.put(2, -1);
        Asm.doWord(x, Asm.load(2, 3, 0, 0));
        check.same("first word", x.register(3), Asm.load(2, 3, 0, 0));
        x.put(1, 4095);
        Asm.doWord(x, Asm.store(0, 1, 2, 0));
        check.same("store to the last byte", x.word(4092), 0xFF706050);
        x.put(1, 4094);
        Asm.doWord(x, Asm.store(1, 1, 0, 0));
        check.same("store to the last half", x.word(4092), 0x6050);
        x.put(1, 4092);
        Asm.doWord(x, Asm.store(2, 1, 2, 0));
        check.same("store to the last word", x.word(4092), -1);
        check.same("traps", x.state(3), 0);
    }

    private static void wraps(Check check) {
        HartDesk x = new HartDesk();
        x.set(100, 4321);
        x.put(1, -20);
        Asm.doWord(x, Asm.load(2, 3, 1, 120));
        check.same("A + I wraps", x.register(3), 4321);
        x.put(4, 99);
        Asm.doWord(x, Asm.store(2, 1, 4, 124));
        check.same("A + S wraps", x.word(104), 99);
        x.put(5, 100);
        Asm.doWord(x, Asm.load(2, 5, 5, 0));
        check.same("d as a", x.register(5), 4321);
    }

    private static void loadTrap(Check check, int f, int address, int cause) {
        HartDesk x = new HartDesk();
        x.put(1, address);
        x.put(2, 22);
        check.same("step", Asm.doWordAt(x, 8, Asm.load(f, 2, 1, 0)), 1);
        checkTrap(check, "load " + f + " at " + address, x, cause, address);
        check.same("d stays", x.register(2), 22);
        x.put(1, address - 8);
        Asm.doWordAt(x, 8, Asm.load(f, 0, 1, 8));
        checkTrap(check, "load to register 0", x, cause, address);
        check.same("traps", x.state(3), 2);
    }

    private static void checkTrap(Check check, String what, HartDesk x, int cause, int value) {
        check.same(what + " CAUSE", x.control(Asm.CAUSE), cause);
        check.same(what + " VALUE", x.control(Asm.VALUE), value);
        check.same(what + " BACK", x.control(Asm.BACK), 8);
        check.same(what + " done", x.state(2), 0);
        check.same(what + " stopped", x.state(0), 1);
    }

    private static void loadTraps(Check check) {
        int[] odd = {1, 3, 4093, 4095, 4097, 5001, -1, -3, Integer.MAX_VALUE, Integer.MIN_VALUE + 1};
        for (int address : odd) {
            loadTrap(check, 1, address, 4);
            loadTrap(check, 5, address, 4);
            loadTrap(check, 2, address, 4);
        }
        int[] by2 = {2, 4090, 4094, 4098, -2, Integer.MAX_VALUE - 1, Integer.MIN_VALUE + 2};
        for (int address : by2) {
            loadTrap(check, 2, address, 4);
        }
        for (int address : FAR) {
            int[] ways = {0, 1, 2, 4, 5};
            for (int f : ways) {
                loadTrap(check, f, address, 5);
            }
        }
        loadTrap(check, 0, 4097, 5);
        loadTrap(check, 4, -1, 5);
        loadTrap(check, 1, 4098, 5);
        loadTrap(check, 5, -2, 5);
    }

    private static void storeTrap(Check check, int f, int address, int cause) {
        HartDesk x = new HartDesk();
        x.put(1, address + 4);
        x.put(2, -1);
        check.same("step", Asm.doWordAt(x, 8, Asm.store(f, 1, 2, -4)), 1);
        checkTrap(check, "store " + f + " at " + address, x, cause, address);
        for (int k : Asm.SOME_WORDS) {
            check.same("memory stays", x.word(k), k == 8 ? Asm.store(f, 1, 2, -4) : 0);
        }
    }

    private static void storeTraps(Check check) {
        int[] odd = {1, 3, 4093, 4095, 4097, -1, Integer.MAX_VALUE, Integer.MIN_VALUE + 1};
        for (int address : odd) {
            storeTrap(check, 1, address, 6);
            storeTrap(check, 2, address, 6);
        }
        int[] by2 = {2, 4094, 4098, -2};
        for (int address : by2) {
            storeTrap(check, 2, address, 6);
        }
        for (int address : FAR) {
            for (int f = 0; f <= 2; f++) {
                storeTrap(check, f, address, 7);
            }
        }
        storeTrap(check, 0, 4097, 7);
        storeTrap(check, 0, -1, 7);
        storeTrap(check, 1, 4098, 7);
    }

    private static void otherForms(Check check) {
        int[] loadWays = {3, 6, 7};
        for (int f : loadWays) {
            unknown(check, Asm.load(f, 2, 1, 0));
        }
        for (int f = 3; f <= 7; f++) {
            unknown(check, Asm.store(f, 1, 2, 0));
        }
    }

    private static void unknown(Check check, int word) {
        int[] addresses = {64, 65, 66, 4096, -1};
        for (int address : addresses) {
            HartDesk x = new HartDesk();
            x.put(1, address);
            x.put(2, 5);
            Asm.doWordAt(x, 8, word);
            checkTrap(check, "unknown", x, 2, word);
            check.same("register", x.register(2), 5);
            check.same("memory", x.word(64), 0);
        }
    }

    private static void ownCode(Check check) {
        HartDesk x = Asm.desk(Asm.store(2, 0, 1, 4), Asm.CALL);
        x.put(1, Asm.addi(2, 0, 42));
        x.run(2);
        check.same("a word that was written is done", x.register(2), 42);
    }
}
