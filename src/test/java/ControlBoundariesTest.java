/** The boundaries of op 115, CONTROLS, TRAP, BACK and INTERRUPT: each method is headed by the document's words. */
final class ControlBoundariesTest {
    private static final int LEAST = Integer.MIN_VALUE;
    private static final int GREATEST = Integer.MAX_VALUE;
    private static final int[] WRITABLE = {Asm.STATUS, Asm.ENABLED, Asm.VECTOR, Asm.SCRATCH, Asm.BACK, Asm.CAUSE, Asm.VALUE};
    private static final int[] HELD = {0x88, 0x800, -4, -1, -4, -1, -1};
    private static final int[] STATUSES = {0, 8, 128, 136};
    private static final int[] WAYS = {1, 2, 3, 5, 6, 7};

    private final Check check = new Check();

    public static void main(String[] args) {
        ControlBoundariesTest test = new ControlBoundariesTest();
        test.words();
        test.ways();
        test.whatControlsHold();
        test.readOnly();
        test.traps();
        test.back();
        test.interrupts();
        test.check.end();
    }

    private void words() {
        theThreeWords();
        theirNeighbours();
        fourIsNone();
    }

    private void ways() {
        numbersUpTo31();
        whatItHadGoesToD();
        nothingIsWritten();
        zeroIsWritten();
    }

    private void whatControlsHold() {
        allOnes();
        bitByBit();
        writtenByOthersBits();
    }

    private void readOnly() {
        pendingIsTheLine();
        doneIsNotTheOneAtHand();
        doneSinceReset();
        doneCountsNoTrap();
        pendingAndDoneCanNotBeWritten();
        anotherNumber();
    }

    private void traps() {
        nothingOfItIsDone();
        statusInATrap();
        vectorZeroStops();
        vectorOfAnyInt();
        backOfALastWord();
    }

    private void back() {
        statusAtBack();
        onAtBack();
    }

    private void interrupts() {
        allThreeBits();
        aheadOfAnInstruction();
        aheadOfATrap();
        rightBehind();
        notWithinATrap();
        interruptThatStops();
        notWhenStopped();
    }

    private static HartDesk deskAt(int word) {
        HartDesk x = Shown.fullDesk();
        x.set(128, word);
        return x;
    }

    private void trapsAt128(HartDesk x, int cause, int value) {
        Shown due = Shown.of(x).butTrap(cause, value, 128);
        check.same("step", x.run(1), 1);
        due.check(check, "TRAP " + cause + " with " + value, x);
    }

    private void unknown(int word) {
        trapsAt128(deskAt(word), 2, word);
    }

    // "the WORD 115: TRAP 11. 1048691: TRAP 3. 807403635: BACK."
    private void theThreeWords() {
        trapsAt128(deskAt(115), 11, 0);
        trapsAt128(deskAt(1048691), 3, 128);
        HartDesk x = deskAt(807403635);
        Shown due = Shown.of(x).butDone(0x0BACC004).but("control(768)", 136);
        check.same("step", x.run(1), 1);
        due.check(check, "BACK", x);
    }

    // "Others: TRAP 2": each WORD that differs from one of the three in a bit.
    private void theirNeighbours() {
        int[] words = {115, 1048691, 807403635};
        for (int word : words) {
            for (int bit = 7; bit < 32; bit++) {
                int other = word ^ 1 << bit;
                if (other != 115 && other != 1048691) {
                    unknown(other);
                }
            }
        }
    }

    // "With f 1, 2, 3, 5, 6, 7": 4 is none of them, and 0 has the three WORDS alone.
    private void fourIsNone() {
        for (int number : Asm.CONTROLS) {
            unknown(Asm.control(4, 3, 0, number));
            unknown(Asm.control(4, 3, 5, number));
            unknown(Asm.control(0, 3, 0, number));
        }
    }

    private static HartDesk deskWith(int number, int v) {
        HartDesk x = new HartDesk();
        Asm.writeControl(x, number, v);
        return x;
    }

    // "1, 5 it becomes A (or the number a)", "2, 6 with all bits of that; 3, 7 without them": a is 0 .. 31.
    private void numbersUpTo31() {
        int[] numbers = {1, 16, 30, 31};
        int[] set = {0xFF00FF01, 0xFF00FF10, 0xFF00FF1E, 0xFF00FF1F};
        for (int k = 0; k < numbers.length; k++) {
            // What the REGISTER of that number has is not looked at.
            changedTo(5, numbers[k], 0x55555555, -1, numbers[k]);
            changedTo(6, numbers[k], 0x55555555, 0xFF00FF00, set[k]);
            changedTo(7, numbers[k], 0x55555555, -1, ~numbers[k]);
            changedTo(1, numbers[k], 0x55555555, -1, 0x55555555);
            changedTo(2, numbers[k], 0x55555555, 0x0F0F0F0F, 0x5F5F5F5F);
            changedTo(3, numbers[k], 0x55555555, 0x0F0F0F0F, 0x0A0A0A0A);
        }
        int[] edges = {0, -1, LEAST, GREATEST};
        for (int v : edges) {
            changedTo(1, 7, v, 1234, v);
            changedTo(2, 7, v, 0, v);
            changedTo(3, 7, v, -1, ~v);
        }
    }

    private void changedTo(int f, int a, int has, int before, int due) {
        HartDesk x = deskWith(Asm.SCRATCH, before);
        x.put(a, has);
        Asm.doWord(x, Asm.control(f, 9, a, Asm.SCRATCH));
        check.same("f " + f + " with a " + a, x.control(Asm.SCRATCH), due);
        check.same("d", x.register(9), before);
        check.same("A stays", x.register(a), has);
        check.same("done", x.state(2), 2);
    }

    // "what it had goes to d behind": with d the same as a A is taken first; with d 0 it goes nowhere.
    private void whatItHadGoesToD() {
        int[] due = {0, 12, 14, 2};
        for (int f = 1; f <= 3; f++) {
            HartDesk x = deskWith(Asm.SCRATCH, 6);
            x.put(9, 12);
            Asm.doWord(x, Asm.control(f, 9, 9, Asm.SCRATCH));
            check.same("d has what it had", x.register(9), 6);
            check.same("it becomes", x.control(Asm.SCRATCH), due[f]);
            x.put(9, 12);
            Asm.doWord(x, Asm.control(f, 0, 9, Asm.SCRATCH));
            check.same("register(0)", x.register(0), 0);
        }
    }

    // "(with 2, 3, 6, 7 and a 0 nothing is written)": so PENDING and DONE too are read so.
    private void nothingIsWritten() {
        int[] reading = {2, 3, 6, 7};
        for (int f : reading) {
            for (int number : Asm.CONTROLS) {
                HartDesk x = deskAt(Asm.control(f, 9, 0, number));
                Shown due = Shown.of(x).but("register(9)", x.control(number)).butDone(132);
                check.same("step", x.run(1), 1);
                due.check(check, "f " + f + " of " + number, x);
            }
        }
    }

    // "1, 5 it becomes A (or the number a)": with a 0 too.
    private void zeroIsWritten() {
        for (int number : WRITABLE) {
            HartDesk x = deskWith(number, -1);
            Asm.doWord(x, Asm.control(1, 0, 0, number));
            check.same("control(" + number + ") by f 1", x.control(number), 0);
            HartDesk y = deskWith(number, -1);
            Asm.doWord(y, Asm.control(5, 0, 0, number));
            check.same("control(" + number + ") by f 5", y.control(number), 0);
        }
    }

    // "STATUS (only bits 3 and 7 can be 1), ENABLED (only bit 11), VECTOR (its lowest two bits are 0), SCRATCH, BACK (its
    // lowest two bits are 0), CAUSE, VALUE (any)"
    private void allOnes() {
        for (int k = 0; k < WRITABLE.length; k++) {
            int[] values = {-1, 0, LEAST, GREATEST, 3, 4, 7};
            for (int v : values) {
                HartDesk x = deskWith(WRITABLE[k], v);
                Shown due = Shown.allZero().butDone(4).but("control(" + WRITABLE[k] + ")", v & HELD[k])
                    .but("register(31)", v).but("word(0)", Asm.control(1, 0, 31, WRITABLE[k]));
                due.check(check, "control " + WRITABLE[k] + " by " + v, x);
            }
        }
    }

    // The same, bit by bit.
    private void bitByBit() {
        for (int k = 0; k < WRITABLE.length; k++) {
            for (int bit = 0; bit < 32; bit++) {
                HartDesk x = deskWith(WRITABLE[k], 1 << bit);
                check.same("bit " + bit + " of " + WRITABLE[k], x.control(WRITABLE[k]), 1 << bit & HELD[k]);
            }
        }
    }

    // "2, 6 with all bits of that; 3, 7 without them": only bits that can be 1 come.
    private void writtenByOthersBits() {
        for (int k = 0; k < WRITABLE.length; k++) {
            HartDesk x = new HartDesk();
            x.put(1, -1);
            Asm.doWord(x, Asm.control(2, 0, 1, WRITABLE[k]));
            check.same("all bits of " + WRITABLE[k], x.control(WRITABLE[k]), HELD[k]);
            Asm.doWord(x, Asm.control(7, 0, 31, WRITABLE[k]));
            check.same("without 31 in " + WRITABLE[k], x.control(WRITABLE[k]), HELD[k] & ~31);
            Asm.doWord(x, Asm.control(6, 0, 31, WRITABLE[k]));
            check.same("with 31 in " + WRITABLE[k], x.control(WRITABLE[k]), HELD[k]);
            Asm.doWord(x, Asm.control(3, 0, 1, WRITABLE[k]));
            check.same("no bits of " + WRITABLE[k], x.control(WRITABLE[k]), 0);
        }
    }

    // "PENDING (bit 11: whether the LINE is up)"
    private void pendingIsTheLine() {
        HartDesk x = new HartDesk();
        boolean[] ups = {false, true, true, false};
        for (boolean up : ups) {
            x.line(up);
            check.same("PENDING", x.control(Asm.PENDING), up ? 2048 : 0);
            Asm.doWord(x, Asm.control(2, 9, 0, Asm.PENDING));
            check.same("PENDING as it is read", x.register(9), up ? 2048 : 0);
        }
    }

    // "DONE (INSTRUCTIONS that were done since the beginning ..; that at hand not)"
    private void doneIsNotTheOneAtHand() {
        int read = Asm.control(2, 9, 0, Asm.DONE);
        HartDesk x = Asm.desk(read, Asm.control(2, 10, 0, Asm.DONE), Asm.NOTHING, Asm.control(2, 11, 0, Asm.DONE));
        x.put(9, 99);
        x.run(4);
        check.same("the first one reads", x.register(9), 0);
        check.same("the second one reads", x.register(10), 1);
        check.same("the fourth one reads", x.register(11), 3);
        check.same("DONE behind them", x.control(Asm.DONE), 4);
    }

    // "or reset()"
    private void doneSinceReset() {
        HartDesk x = Asm.desk(Asm.NOTHING, Asm.control(2, 9, 0, Asm.DONE), Asm.STAY);
        x.run(20);
        check.same("DONE", x.control(Asm.DONE), 20);
        x.reset(false);
        check.same("DONE behind reset()", x.control(Asm.DONE), 0);
        x.run(2);
        check.same("as it is read", x.register(9), 1);
        check.same("DONE", x.control(Asm.DONE), 2);
    }

    // "it counts as none done"
    private void doneCountsNoTrap() {
        HartDesk x = deskWith(Asm.VECTOR, 512);
        Asm.setAll(x, 512, Asm.control(2, 9, 0, Asm.DONE));
        Asm.doWord(x, Asm.CALL);
        check.same("DONE", x.control(Asm.DONE), 1);
        x.run(1);
        check.same("as it is read", x.register(9), 1);
    }

    // "PENDING and DONE can't be written: TRAP 2"
    private void pendingAndDoneCanNotBeWritten() {
        int[] numbers = {Asm.PENDING, Asm.DONE};
        for (int number : numbers) {
            for (int f : WAYS) {
                unknown(Asm.control(f, 9, 5, number));
                unknown(Asm.control(f, 9, 31, number));
            }
            unknown(Asm.control(1, 9, 0, number));
            unknown(Asm.control(5, 9, 0, number));
            // The field a counts: a REGISTER other than 0 that has 0 is a write, too.
            for (int f = 2; f <= 3; f++) {
                HartDesk x = deskAt(Asm.control(f, 9, 5, number));
                x.put(5, 0);
                trapsAt128(x, 2, Asm.control(f, 9, 5, number));
            }
        }
    }

    // "as another number": read or written; "a CONTROL's number is bits 20 .. 31 (unsigned)"
    private void anotherNumber() {
        int[] others = {0, 1, 767, 769, 770, 771, 774, 831, 837, 2047, 2048, 2815, 2817, 2818, 2944, 3072, 4095};
        for (int number : others) {
            for (int f : WAYS) {
                unknown(Asm.control(f, 9, 5, number));
                unknown(Asm.control(f, 9, 0, number));
            }
        }
    }

    // "A TRAP (nothing of the INSTRUCTION is done, it counts as none done): BACK .., CAUSE .., VALUE as told, ..; on at VECTOR"
    private void nothingOfItIsDone() {
        trapsAt128(deskAt(Asm.jal(9, 2)), 0, 130);
        trapsAt128(deskAt(0), 2, 0);
        trapsAt128(deskAt(-1), 2, -1);
        trapsAt128(deskAt(LEAST), 2, LEAST);
        trapsAt128(deskAt(Asm.BREAK), 3, 128);
        trapsAt128(deskAt(Asm.load(2, 9, 0, 2)), 4, 2);
        trapsAt128(deskAt(Asm.load(2, 9, 0, -4)), 5, -4);
        trapsAt128(deskAt(Asm.store(2, 0, 9, 2)), 6, 2);
        trapsAt128(deskAt(Asm.store(2, 0, 9, -4)), 7, -4);
        trapsAt128(deskAt(Asm.CALL), 11, 0);
    }

    // "bit 7 of STATUS what bit 3 is, then bit 3 is 0": whether it stops or not.
    private void statusInATrap() {
        int[] due = {0, 128, 0, 128};
        for (int k = 0; k < STATUSES.length; k++) {
            int[] vectors = {0, 512};
            for (int vector : vectors) {
                HartDesk x = deskWith(Asm.VECTOR, vector);
                Asm.writeControl(x, Asm.STATUS, STATUSES[k]);
                Asm.doWord(x, Asm.CALL);
                check.same("STATUS " + STATUSES[k], x.control(Asm.STATUS), due[k]);
            }
        }
    }

    // "If VECTOR is 0: it STOPS (CAUSE and so on are as told, the PC stays)."
    private void vectorZeroStops() {
        int[] vectors = {0, 1, 2, 3};
        for (int vector : vectors) {
            HartDesk x = Shown.fullDesk();
            Asm.writeControl(x, Asm.VECTOR, vector);
            x.set(128, Asm.CALL);
            x.put(32, 128);
            Shown due = Shown.of(x).butTrap(11, 0, 128);
            check.same("run(9)", x.run(9), 1);
            due.check(check, "VECTOR " + vector, x);
            check.same("stopped", x.state(0), 1);
            check.same("PC", x.register(32), 128);
        }
    }

    // "on at VECTOR": 4 is the least one, it may be beyond MEMORY, and -4 is one as well.
    private void vectorOfAnyInt() {
        int[] vectors = {4, 7, 4092, 4096, GREATEST, LEAST, -1};
        int[] pcs = {4, 4, 4092, 4096, GREATEST - 3, LEAST, -4};
        for (int k = 0; k < vectors.length; k++) {
            HartDesk x = deskWith(Asm.VECTOR, vectors[k]);
            Asm.doWordAt(x, 256, Asm.CALL);
            check.same("on at VECTOR", x.register(32), pcs[k]);
            check.same("not stopped", x.state(0), 0);
            check.same("BACK", x.control(Asm.BACK), 256);
        }
        HartDesk x = deskWith(Asm.VECTOR, -4);
        Asm.doWord(x, Asm.CALL);
        check.same("TRAP 1 again and again", x.run(7), 7);
        check.same("PC", x.register(32), -4);
        check.same("BACK", x.control(Asm.BACK), -4);
        check.same("CAUSE", x.control(Asm.CAUSE), 1);
        check.same("traps", x.state(3), 8);
    }

    // "BACK is its PC": at the first and the last WORD, and beyond.
    private void backOfALastWord() {
        int[] pcs = {0, 4092, 4096, LEAST, -4};
        for (int pc : pcs) {
            HartDesk x = deskWith(Asm.VECTOR, 512);
            Asm.writeControl(x, Asm.BACK, 0x100);
            x.set(pc, Asm.CALL);
            x.put(32, pc);
            x.run(1);
            check.same("BACK", x.control(Asm.BACK), pc);
            check.same("CAUSE", x.control(Asm.CAUSE), pc == 0 || pc == 4092 ? 11 : 1);
        }
    }

    // "BACK: bit 3 of STATUS is what bit 7 is, then bit 7 is 1"
    private void statusAtBack() {
        int[] due = {128, 128, 136, 136};
        for (int k = 0; k < STATUSES.length; k++) {
            HartDesk x = deskWith(Asm.STATUS, STATUSES[k]);
            Asm.doWord(x, Asm.RETURN);
            check.same("STATUS " + STATUSES[k], x.control(Asm.STATUS), due[k]);
            Asm.doWord(x, Asm.RETURN);
            check.same("once more", x.control(Asm.STATUS), 136);
        }
    }

    // "on at BACK": its lowest two bits are 0; it may be 0, or beyond MEMORY.
    private void onAtBack() {
        int[] backs = {0, 3, 4092, 4095, 4096, GREATEST, LEAST, -1};
        int[] pcs = {0, 0, 4092, 4092, 4096, GREATEST - 3, LEAST, -4};
        for (int k = 0; k < backs.length; k++) {
            HartDesk x = deskWith(Asm.BACK, backs[k]);
            check.same("step", Asm.doWordAt(x, 256, Asm.RETURN), 1);
            check.same("on at BACK", x.register(32), pcs[k]);
            check.same("BACK stays", x.control(Asm.BACK), pcs[k]);
            check.same("done", x.state(2), 2);
            check.same("traps", x.state(3), 0);
        }
    }

    private static HartDesk interruptible(int vector, int enabled, int status, boolean up) {
        HartDesk x = new HartDesk();
        Asm.writeControl(x, Asm.VECTOR, vector);
        Asm.writeControl(x, Asm.ENABLED, enabled);
        Asm.writeControl(x, Asm.STATUS, status);
        Asm.setAll(x, 256, Asm.addi(1, 1, 1), Asm.addi(1, 1, 1));
        x.line(up);
        x.put(32, 256);
        return x;
    }

    // "if bit 3 of STATUS, bit 11 of ENABLED and of PENDING are 1": all three.
    private void allThreeBits() {
        boolean[] ups = {false, true};
        int[] enableds = {0, -1 & ~2048, 2048, -1};
        for (int status : STATUSES) {
            for (int enabled : enableds) {
                for (boolean up : ups) {
                    HartDesk x = interruptible(512, enabled, status, up);
                    boolean comes = up && (enabled & 2048) != 0 && (status == 8 || status == 136);
                    check.same("step", x.run(1), 1);
                    check.same("PC", x.register(32), comes ? 512 : 260);
                    check.same("traps", x.state(3), comes ? 1 : 0);
                    check.same("done", x.state(2), comes ? 3 : 4);
                }
            }
        }
    }

    // "ahead of an INSTRUCTION ..: a TRAP with CAUSE -2147483637, VALUE 0, its BACK the INSTRUCTION's PC"
    private void aheadOfAnInstruction() {
        HartDesk x = interruptible(512, 2048, 8, false);
        Asm.writeControl(x, Asm.VALUE, 77);
        x.put(32, 256);
        x.line(true);
        Shown due = Shown.of(x).butTrap(-2147483637, 0, 256).but("control(768)", 128);
        check.same("step", x.run(1), 1);
        due.check(check, "INTERRUPT", x);
    }

    // "ahead of an INSTRUCTION": also of one in whose place another TRAP would come up.
    private void aheadOfATrap() {
        int[] words = {Asm.CALL, Asm.BREAK, 0, Asm.jal(7, 2), Asm.load(2, 7, 0, 2), Asm.store(2, 0, 7, -4)};
        for (int word : words) {
            HartDesk x = interruptible(512, 2048, 8, true);
            x.set(256, word);
            x.run(1);
            check.same("CAUSE", x.control(Asm.CAUSE), -2147483637);
            check.same("VALUE", x.control(Asm.VALUE), 0);
            check.same("traps", x.state(3), 1);
        }
        HartDesk x = interruptible(512, 2048, 8, true);
        x.put(32, 4096);
        x.run(1);
        check.same("CAUSE at a PC beyond MEMORY", x.control(Asm.CAUSE), -2147483637);
        check.same("BACK", x.control(Asm.BACK), 4096);
    }

    // "ahead of an INSTRUCTION": of the very next one behind that which made the last bit 1.
    private void rightBehind() {
        HartDesk x = interruptible(512, 2048, 0, true);
        x.set(256, Asm.control(6, 0, 8, Asm.STATUS));
        x.run(2);
        check.same("BACK behind STATUS", x.control(Asm.BACK), 260);
        HartDesk y = interruptible(512, 0, 8, true);
        y.put(2, 2048);
        y.set(256, Asm.control(1, 0, 2, Asm.ENABLED));
        y.run(2);
        check.same("BACK behind ENABLED", y.control(Asm.BACK), 260);
        HartDesk z = interruptible(512, 2048, 128, true);
        Asm.writeControl(z, Asm.BACK, 260);
        Asm.doWordAt(z, 256, Asm.RETURN);
        check.same("on at BACK", z.register(32), 260);
        z.run(1);
        check.same("INTERRUPT behind BACK", z.control(Asm.CAUSE), -2147483637);
        check.same("its BACK", z.control(Asm.BACK), 260);
        HartDesk off = interruptible(512, 2048, 8, false);
        off.set(256, Asm.control(7, 0, 8, Asm.STATUS));
        off.run(1);
        off.line(true);
        off.run(1);
        check.same("none behind bit 3 was taken away", off.state(3), 0);
    }

    // "then bit 3 is 0": so none comes ahead of what stands at VECTOR.
    private void notWithinATrap() {
        HartDesk x = interruptible(512, 2048, 8, true);
        Asm.setAll(x, 512, Asm.NOTHING, Asm.NOTHING, Asm.RETURN);
        x.run(3);
        check.same("traps", x.state(3), 1);
        check.same("PC", x.register(32), 520);
        x.run(2);
        check.same("and again behind BACK", x.state(3), 2);
        check.same("PC", x.register(32), 512);
        check.same("the INSTRUCTION waits", x.register(1), 0);
    }

    // "If VECTOR is 0: it STOPS": an INTERRUPT, too.
    private void interruptThatStops() {
        HartDesk x = interruptible(0, 2048, 8, true);
        Shown due = Shown.of(x).butTrap(-2147483637, 0, 256).but("control(768)", 128);
        check.same("run(9)", x.run(9), 1);
        due.check(check, "an INTERRUPT that stops it", x);
    }

    // "less, if it STOPS": the LINE does not wake it.
    private void notWhenStopped() {
        HartDesk x = interruptible(0, 2048, 8, false);
        x.set(256, Asm.control(1, 0, 0, 0));
        check.same("run(9)", x.run(9), 1);
        check.same("stopped", x.state(0), 1);
        x.line(true);
        check.same("run(9) when stopped", x.run(9), 0);
        check.same("CAUSE", x.control(Asm.CAUSE), 2);
        check.same("traps", x.state(3), 1);
    }
}
