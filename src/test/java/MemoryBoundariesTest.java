/** The boundaries of MEMORY, of ops 3 and 35, and of TRAPS 4 to 7: each method is headed by the document's words. */
final class MemoryBoundariesTest {
    private static final int LEAST = Integer.MIN_VALUE;
    private static final int GREATEST = Integer.MAX_VALUE;
    private static final int AT = 2000;
    private static final int[] LOADS = {0, 1, 2, 4, 5};

    private final Check check = new Check();

    public static void main(String[] args) {
        MemoryBoundariesTest test = new MemoryBoundariesTest();
        test.bytesFirstAndLast();
        test.lowestFirst();
        test.bytesWithSign();
        test.halvesWithSign();
        test.wordsOfAnyInt();
        test.lowestPartsOfB();
        test.addressesWrap();
        test.readNotBy();
        test.readBeyond();
        test.writtenNotBy();
        test.writtenBeyond();
        test.notByAheadOfBeyond();
        test.beyondIsUnsigned();
        test.registerZero();
        test.otherForms();
        test.check.end();
    }

    private static int size(int f) {
        return f == 0 || f == 4 ? 1 : f == 2 ? 4 : 2;
    }

    private int loaded(HartDesk x, int f, int address) {
        x.put(1, address);
        x.put(2, 0x2BADBAD2);
        check.same("step", Asm.doWordAt(x, AT, Asm.load(f, 2, 1, 0)), 1);
        check.same("load " + f + " at " + address + " goes on", x.register(32), AT + 4);
        return x.register(2);
    }

    // "4096 BYTES at addresses 0 .. 4095 (0 at first)"
    private void bytesFirstAndLast() {
        HartDesk x = new HartDesk();
        for (int f : LOADS) {
            check.same("first, by " + f, loaded(x, f, 0), 0);
            check.same("last, by " + f, loaded(x, f, 4096 - size(f)), 0);
        }
        x.set(0, 0x04030201);
        x.set(4092, 0x14131211);
        check.same("byte 0", loaded(x, 4, 0), 0x01);
        check.same("byte 4095", loaded(x, 4, 4095), 0x14);
        check.same("traps", x.state(3), 0);
        x.put(2, 0x66);
        x.put(3, 0);
        Asm.doWordAt(x, AT, Asm.store(0, 3, 2, 0));
        x.put(3, 4095);
        Asm.doWordAt(x, AT, Asm.store(0, 3, 2, 0));
        check.same("byte 0 is written", x.word(0), 0x04030266);
        check.same("byte 4095 is written", x.word(4092), 0x66131211);
        check.same("traps", x.state(3), 0);
    }

    // "a HALF is two BYTES, a WORD four, the lowest one first"
    private void lowestFirst() {
        int[] addresses = {0, 1024, 4092};
        for (int address : addresses) {
            HartDesk x = new HartDesk();
            x.set(address, 0x44332211);
            check.same("byte 0", loaded(x, 4, address), 0x11);
            check.same("byte 1", loaded(x, 4, address + 1), 0x22);
            check.same("byte 2", loaded(x, 4, address + 2), 0x33);
            check.same("byte 3", loaded(x, 4, address + 3), 0x44);
            check.same("half 0", loaded(x, 5, address), 0x2211);
            check.same("half 1", loaded(x, 5, address + 2), 0x4433);
            check.same("word", loaded(x, 2, address), 0x44332211);
        }
    }

    // "f 0 a BYTE with sign", "4 a BYTE .. without"
    private void bytesWithSign() {
        int[] bytes = {0, 1, 127, 128, 129, 255};
        int[] signed = {0, 1, 127, -128, -127, -1};
        for (int k = 0; k < bytes.length; k++) {
            for (int place = 0; place < 4; place++) {
                HartDesk x = new HartDesk();
                int shift = 8 * place;
                // Around the byte the other bit stands, so that a wrong place or width shows.
                int around = signed[k] < 0 ? 0 : -1;
                x.set(256, around & ~(255 << shift) | bytes[k] << shift);
                check.same("byte with sign", loaded(x, 0, 256 + place), signed[k]);
                check.same("byte without", loaded(x, 4, 256 + place), bytes[k]);
            }
        }
    }

    // "1 a HALF with sign", "5 a HALF, without"
    private void halvesWithSign() {
        int[] halves = {0, 1, 127, 128, 255, 256, 32767, 32768, 32769, 65535};
        int[] signed = {0, 1, 127, 128, 255, 256, 32767, -32768, -32767, -1};
        for (int k = 0; k < halves.length; k++) {
            for (int place = 0; place < 4; place += 2) {
                HartDesk x = new HartDesk();
                int shift = 8 * place;
                int around = signed[k] < 0 ? 0 : -1;
                x.set(256, around & ~(65535 << shift) | halves[k] << shift);
                check.same("half with sign", loaded(x, 1, 256 + place), signed[k]);
                check.same("half without", loaded(x, 5, 256 + place), halves[k]);
            }
        }
    }

    // "2 a WORD"
    private void wordsOfAnyInt() {
        int[] words = {0, 1, -1, LEAST, GREATEST, 0x80, 0x8000};
        HartDesk x = new HartDesk();
        for (int word : words) {
            x.set(256, word);
            check.same("word", loaded(x, 2, 256), word);
        }
    }

    // "at A + S goes B's lowest BYTE (f 0), HALF (1), WORD (2)": and nothing beside it.
    private void lowestPartsOfB() {
        partIsStored(0, 508, 0x99AABBF1);
        partIsStored(0, 509, 0x99AAF1DD);
        partIsStored(0, 510, 0x99F1BBDD);
        partIsStored(0, 511, 0xF1AABBDD);
        partIsStored(1, 508, 0x99AAD2F1);
        partIsStored(1, 510, 0xD2F1BBDD);
        partIsStored(2, 508, 0xB4C3D2F1);
    }

    private void partIsStored(int f, int address, int due) {
        HartDesk x = Shown.fullDesk();
        x.put(1, address);
        x.put(2, 0xB4C3D2F1);
        int word = Asm.store(f, 1, 2, 0);
        x.set(128, word);
        x.set(508, 0x99AABBDD);
        Shown shown = Shown.of(x);
        check.same("step", x.run(1), 1);
        shown.butDone(132).but("word(508)", due).check(check, "store " + f + " at " + address, x);
    }

    // "All ints wrap": A + I and A + S.
    private void addressesWrap() {
        HartDesk x = new HartDesk();
        x.set(0, 1234);
        x.set(2044, 5678);
        x.put(1, -1);
        Asm.doWordAt(x, AT, Asm.load(2, 2, 1, 1));
        check.same("-1 + 1", x.register(2), 1234);
        x.put(1, -3);
        Asm.doWordAt(x, AT, Asm.load(2, 2, 1, 2047));
        check.same("-3 + 2047", x.register(2), 5678);
        x.put(1, -4);
        Asm.doWordAt(x, AT, Asm.store(2, 1, 2, 4));
        check.same("-4 + 4", x.word(0), 5678);
        accessTraps(Asm.load(0, 2, 1, 1), GREATEST, 5, LEAST);
        accessTraps(Asm.load(0, 2, 1, -1), LEAST, 5, GREATEST);
        accessTraps(Asm.load(0, 2, 1, -1), 0, 5, -1);
        accessTraps(Asm.store(0, 1, 2, 1), GREATEST, 7, LEAST);
        accessTraps(Asm.store(0, 1, 2, -1), LEAST, 7, GREATEST);
        accessTraps(Asm.store(0, 1, 2, -1), 0, 7, -1);
        accessTraps(Asm.load(0, 2, 1, 2047), 2049, 5, 4096);
        accessTraps(Asm.store(0, 1, 2, -2048), 2047, 7, -1);
    }

    /** The word at 128 traps with A in register 1, and nothing of it is done. */
    private void accessTraps(int word, int a, int cause, int value) {
        HartDesk x = Shown.fullDesk();
        x.set(128, word);
        x.put(1, a);
        Shown due = Shown.of(x).butTrap(cause, value, 128);
        check.same("step", x.run(1), 1);
        due.check(check, "word " + word + " with A " + a, x);
    }

    private void loadTraps(int f, int address, int cause) {
        accessTraps(Asm.load(f, 2, 1, 0), address, cause, address);
    }

    private void storeTraps(int f, int address, int cause) {
        accessTraps(Asm.store(f, 1, 2, 0), address, cause, address);
    }

    // "4 a HALF or WORD is read at an address not by 2 or 4 (VALUE the address)": a BYTE is at any.
    private void readNotBy() {
        int[] odd = {1, 3, 2049, 4091, 4093, 4095};
        for (int address : odd) {
            loadTraps(1, address, 4);
            loadTraps(5, address, 4);
            loadTraps(2, address, 4);
        }
        int[] by2 = {2, 6, 2046, 4090, 4094};
        for (int address : by2) {
            loadTraps(2, address, 4);
        }
        HartDesk x = new HartDesk();
        for (int address : odd) {
            check.same("a byte", loaded(x, 0, address), 0);
            check.same("a byte", loaded(x, 4, address), 0);
        }
        for (int address : by2) {
            check.same("a half", loaded(x, 1, address), 0);
            check.same("a half", loaded(x, 5, address), 0);
        }
    }

    // "5 read beyond MEMORY (VALUE likewise)"
    private void readBeyond() {
        for (int f : LOADS) {
            loadTraps(f, 4096, 5);
            loadTraps(f, -size(f), 5);
            HartDesk x = new HartDesk();
            check.same("the last one is read", loaded(x, f, 4096 - size(f)), 0);
        }
        loadTraps(0, 4097, 5);
        loadTraps(4, 4099, 5);
        loadTraps(1, 4098, 5);
        loadTraps(5, 4098, 5);
    }

    // "6, 7 written, likewise": not by 2 or 4.
    private void writtenNotBy() {
        int[] odd = {1, 3, 2049, 4091, 4093, 4095};
        for (int address : odd) {
            storeTraps(1, address, 6);
            storeTraps(2, address, 6);
        }
        int[] by2 = {2, 6, 2046, 4090, 4094};
        for (int address : by2) {
            storeTraps(2, address, 6);
        }
        HartDesk x = new HartDesk();
        x.put(2, 0x0102);
        x.put(1, 4095);
        Asm.doWordAt(x, AT, Asm.store(0, 1, 2, 0));
        check.same("a byte at 4095", x.word(4092), 0x02000000);
        x.put(1, 4094);
        Asm.doWordAt(x, AT, Asm.store(1, 1, 2, 0));
        check.same("a half at 4094", x.word(4092), 0x01020000);
        check.same("traps", x.state(3), 0);
    }

    // "6, 7 written, likewise": beyond MEMORY.
    private void writtenBeyond() {
        for (int f = 0; f <= 2; f++) {
            storeTraps(f, 4096, 7);
            storeTraps(f, -size(f), 7);
        }
        storeTraps(0, 4097, 7);
        storeTraps(0, 4099, 7);
        storeTraps(1, 4098, 7);
        HartDesk x = new HartDesk();
        x.put(1, 4092);
        x.put(2, -5);
        Asm.doWordAt(x, AT, Asm.store(2, 1, 2, 0));
        check.same("the last word is written", x.word(4092), -5);
    }

    // "4, 6 come ahead of 5, 7"
    private void notByAheadOfBeyond() {
        int[] odd = {4097, 4099, -1, -3, GREATEST, LEAST + 1};
        for (int address : odd) {
            loadTraps(1, address, 4);
            loadTraps(5, address, 4);
            loadTraps(2, address, 4);
            storeTraps(1, address, 6);
            storeTraps(2, address, 6);
        }
        int[] by2 = {4098, -2, GREATEST - 1, LEAST + 2};
        for (int address : by2) {
            loadTraps(2, address, 4);
            storeTraps(2, address, 6);
        }
    }

    // "beyond is each BYTE of it, unsigned"
    private void beyondIsUnsigned() {
        int[] addresses = {LEAST, LEAST + 4, -4096, -2048, -4, GREATEST - 3, 1 << 30, 65536};
        for (int address : addresses) {
            for (int f : LOADS) {
                loadTraps(f, address, 5);
            }
            for (int f = 0; f <= 2; f++) {
                storeTraps(f, address, 7);
            }
        }
    }

    // "0 is always 0": it is read into as into others (the TRAP comes too), and written from as 0.
    private void registerZero() {
        HartDesk x = new HartDesk();
        x.set(256, -1);
        Asm.doWordAt(x, AT, Asm.load(2, 0, 0, 256));
        check.same("register(0)", x.register(0), 0);
        check.same("done", x.state(2), 1);
        Asm.doWordAt(x, AT, Asm.store(2, 0, 0, 256));
        check.same("0 is written", x.word(256), 0);
        accessTraps(Asm.load(2, 0, 1, 0), 4096, 5, 4096);
        accessTraps(Asm.load(2, 0, 1, 0), 4094, 4, 4094);
    }

    // "Others: TRAP 2": with an address that would trap, too.
    private void otherForms() {
        int[] addresses = {256, 257, 4096, -1};
        int[] loads = {3, 6, 7};
        for (int address : addresses) {
            for (int f : loads) {
                accessTraps(Asm.load(f, 2, 1, 0), address, 2, Asm.load(f, 2, 1, 0));
            }
            for (int f = 3; f <= 7; f++) {
                accessTraps(Asm.store(f, 1, 2, 0), address, 2, Asm.store(f, 1, 2, 0));
            }
        }
    }
}
