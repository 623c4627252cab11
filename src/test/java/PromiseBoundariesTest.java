/** The sentences of promises 1 to 10 that name a boundary: each method is headed by the document's words. */
final class PromiseBoundariesTest {
    private static final int LEAST = Integer.MIN_VALUE;
    private static final int GREATEST = Integer.MAX_VALUE;
    private static final int[] NOT_BY_4 = {1, 2, 3, 5, 2047, 4089, 4090, 4091, 4093, 4094, 4095};
    private static final int[] NOT_IN_MEMORY = {4096, 4100, 8192, 65536, 1 << 30, GREATEST - 3, LEAST, LEAST + 4, -4096, -8,
        -4};
    private static final int[] NEITHER = {4097, GREATEST, LEAST + 1, -1, -2, -3};

    private final Check check = new Check();

    public static void main(String[] args) {
        PromiseBoundariesTest test = new PromiseBoundariesTest();
        test.newObjects();
        test.setAndWord();
        test.putting();
        test.lines();
        test.running();
        test.limit();
        test.resets();
        test.reads();
        test.states();
        test.check.end();
    }

    private void newObjects() {
        allIsZero();
        allIsZeroForTheFirstStep();
    }

    private void setAndWord() {
        setFirstAndLast();
        setNotBy4();
        setNotInMemory();
        wordFirstAndLast();
        wordAsSetTells();
    }

    private void putting() {
        putFirstAndLastRegister();
        putOthers();
        putPcBy4();
        putPcNotBy4();
        putPcAfterAStop();
    }

    private void lines() {
        lineUpAndDown(true);
        lineUpAndDown(false);
    }

    private void running() {
        runLeastAndMost();
        runAnotherN();
        runAnotherNWhenStopped();
        runTrapsAndInterruptsCount();
        runStops();
        runWhenStopped();
    }

    private void limit() {
        limitIsReached();
        limitIsPassed();
        limitInTheMidst();
        limitAndStop();
        limitAndAnotherN();
    }

    private void resets() {
        boolean[] both = {false, true};
        for (boolean all : both) {
            resetOfAFullDesk(all, true);
            resetOfAFullDesk(all, false);
            resetOfAStoppedDesk(all);
            resetOfANewDesk(all);
            resetAndTheLimit(all);
        }
    }

    private void reads() {
        registerFirstAndLast();
        registerAnother();
        controlOfEach();
        controlAnother();
    }

    private void states() {
        stateOfEach();
        stateAnother();
        stateStopped();
        stateSinceReset();
    }

    // "All is 0."
    private void allIsZero() {
        Shown.allZero().check(check, "a new object", new HartDesk());
    }

    // "All is 0.": VECTOR and the WORD at the PC too, so that the first step is a TRAP 2 that stops it.
    private void allIsZeroForTheFirstStep() {
        HartDesk x = new HartDesk();
        check.same("run(1000)", x.run(1000), 1);
        Shown.allZero().butTrap(2, 0, 0).check(check, "the first step", x);
    }

    // "The WORD at an address: true": 0 and 4092 are the first and the last one.
    private void setFirstAndLast() {
        int[] addresses = {0, 4, 4088, 4092};
        int[] words = {LEAST, GREATEST, -1, 0};
        for (int address : addresses) {
            HartDesk x = Shown.fullDesk();
            Shown due = Shown.of(x);
            for (int word : words) {
                check.yes("set(" + address + ", " + word + ")", x.set(address, word));
                check.same("word(" + address + ")", x.word(address), word);
            }
            due.but("word(" + address + ")", 0).check(check, "set(" + address + ")", x);
        }
    }

    // "false, changing nothing, if that is not by 4"
    private void setNotBy4() {
        setIsRefused(NOT_BY_4);
    }

    // "or not 0 .. 4092"
    private void setNotInMemory() {
        setIsRefused(NOT_IN_MEMORY);
        setIsRefused(NEITHER);
    }

    private void setIsRefused(int[] addresses) {
        HartDesk x = Shown.fullDesk();
        Shown due = Shown.of(x);
        for (int address : addresses) {
            check.no("set(" + address + ", -1)", x.set(address, -1));
            check.no("set(" + address + ", 0)", x.set(address, 0));
        }
        due.check(check, "behind refused set()", x);
    }

    // "A REGISTER (1 .. 31) becomes v": 1 and 31 are the first and the last one; v is any int.
    private void putFirstAndLastRegister() {
        int[] registers = {1, 2, 30, 31};
        int[] values = {0, 1, 3, -1, LEAST, GREATEST};
        for (int k : registers) {
            HartDesk x = Shown.fullDesk();
            Shown due = Shown.of(x);
            for (int v : values) {
                check.yes("put(" + k + ", " + v + ")", x.put(k, v));
                check.same("register(" + k + ")", x.register(k), v);
            }
            due.but("register(" + k + ")", GREATEST).check(check, "put(" + k + ")", x);
        }
    }

    // "false, changing nothing, for others": 0 is no REGISTER that put() takes.
    private void putOthers() {
        int[] others = {0, -1, -31, -32, 33, 34, 63, 64, 288, 65537, GREATEST, LEAST, LEAST + 1, LEAST + 32};
        HartDesk x = Shown.fullDesk();
        Shown due = Shown.of(x);
        for (int k : others) {
            check.no("put(" + k + ", 4)", x.put(k, 4));
            check.no("put(" + k + ", -1)", x.put(k, -1));
        }
        due.check(check, "behind refused put()", x);
    }

    // "or (32) the PC (by 4 only": beyond MEMORY too, as nothing is said of that.
    private void putPcBy4() {
        HartDesk x = Shown.fullDesk();
        Shown due = Shown.of(x);
        int[] values = {0, 4, 4088, 4092, 4096, GREATEST - 3, LEAST, -4};
        for (int v : values) {
            check.yes("put(32, " + v + ")", x.put(32, v));
            check.same("register(32)", x.register(32), v);
        }
        due.but("register(32)", -4).check(check, "put(32)", x);
    }

    // "by 4 only": false, changing nothing.
    private void putPcNotBy4() {
        HartDesk x = Shown.fullDesk();
        Shown due = Shown.of(x);
        int[] values = {1, 2, 3, 4093, 4094, 4095, 4097, GREATEST, GREATEST - 1, LEAST + 1, LEAST + 2, -1, -2, -3};
        for (int v : values) {
            check.no("put(32, " + v + ")", x.put(32, v));
        }
        due.check(check, "behind a refused PC", x);
    }

    // "it does not STOP any more then": by an accepted PC alone, be it the one that it had.
    private void putPcAfterAStop() {
        HartDesk x = new HartDesk();
        x.run(1);
        Shown due = Shown.of(x);
        check.no("put(32, 2) when stopped", x.put(32, 2));
        check.no("put(33, 0) when stopped", x.put(33, 0));
        check.no("put(0, 0) when stopped", x.put(0, 0));
        check.yes("put(31, 0) when stopped", x.put(31, 0));
        due.check(check, "still stopped", x);
        check.yes("put(32, 0) when stopped", x.put(32, 0));
        due.but("state(0)", 0).check(check, "not stopped any more", x);
        check.same("it runs, and stops anew", x.run(2), 1);
    }

    // "The LINE goes up or down.": once more in the same way changes nothing.
    private void lineUpAndDown(boolean up) {
        HartDesk x = Shown.fullDesk();
        x.line(!up);
        Shown due = Shown.of(x).but("state(4)", up ? 1 : 0).but("control(836)", up ? 2048 : 0);
        x.line(up);
        due.check(check, "line(" + up + ")", x);
        x.line(up);
        due.check(check, "line(" + up + ") once more", x);
    }

    // "n (1 .. 1000) STEPS": how many is n.
    private void runLeastAndMost() {
        HartDesk x = Asm.desk(Asm.addi(1, 1, 1), Asm.jal(0, -4));
        check.same("run(1)", x.run(1), 1);
        check.same("steps", x.state(1), 1);
        check.same("register(1)", x.register(1), 1);
        check.same("run(1000)", x.run(1000), 1000);
        check.same("steps", x.state(1), 1001);
        check.same("register(1)", x.register(1), 501);
        check.same("run(999)", x.run(999), 999);
        check.same("steps", x.state(1), 2000);
    }

    // "IllegalArgumentException: another n"
    private void runAnotherN() {
        HartDesk x = Shown.fullDesk();
        runIsRefused(x);
    }

    private void runIsRefused(HartDesk x) {
        int[] others = {0, 1001, -1, -1000, 1002, 65537, GREATEST, LEAST, LEAST + 1};
        Shown due = Shown.of(x);
        for (int n : others) {
            check.illegalArgument("run(" + n + ")", () -> x.run(n));
        }
        due.check(check, "behind refused run()", x);
    }

    // "IllegalArgumentException: another n": when it has stopped, too.
    private void runAnotherNWhenStopped() {
        HartDesk x = new HartDesk();
        x.run(1);
        runIsRefused(x);
    }

    // "each is an INSTRUCTION, or a TRAP (or INTERRUPT) that comes up in its place"
    private void runTrapsAndInterruptsCount() {
        HartDesk x = new HartDesk();
        Asm.writeControl(x, Asm.VECTOR, 1024);
        Asm.writeControl(x, Asm.ENABLED, 2048);
        Asm.writeControl(x, Asm.STATUS, 8);
        Asm.setAll(x, 1024, Asm.NOTHING, Asm.CALL);
        x.line(true);
        check.same("an INTERRUPT, an INSTRUCTION, a TRAP", x.run(3), 3);
        check.same("steps", x.state(1), 6);
        check.same("done", x.state(2), 4);
        check.same("traps", x.state(3), 2);
        check.same("CAUSE", x.control(Asm.CAUSE), 11);
        check.same("PC", x.register(32), 1024);
    }

    // "less, if it STOPS: how many": the TRAP that stops it is one of them.
    private void runStops() {
        int[] ahead = {0, 1, 5, 9};
        for (int k : ahead) {
            HartDesk x = new HartDesk();
            for (int word = 0; word < k; word++) {
                x.set(4 * word, Asm.NOTHING);
            }
            Shown due = Shown.of(x).but("state(1)", k).but("state(2)", k).but("control(2816)", k).butTrap(2, 0, 4 * k);
            check.same("run(10) with a stop behind " + k, x.run(10), k + 1);
            due.check(check, "stopped behind " + k, x);
        }
        HartDesk x = new HartDesk();
        for (int word = 0; word < 10; word++) {
            x.set(4 * word, Asm.NOTHING);
        }
        check.same("run(10) right up to it", x.run(10), 10);
        check.same("it has not stopped", x.state(0), 0);
    }

    // "less, if it STOPS": none at all when it has.
    private void runWhenStopped() {
        HartDesk x = new HartDesk();
        x.run(1);
        x.set(0, Asm.NOTHING);
        Shown due = Shown.of(x);
        check.same("run(1)", x.run(1), 0);
        check.same("run(1000)", x.run(1000), 0);
        due.check(check, "run() when stopped", x);
    }

    private static HartDesk deskWithSteps(int steps) {
        HartDesk x = Asm.desk(Asm.STAY);
        int left = steps;
        while (left > 0) {
            left -= x.run(Math.min(left, 1000));
        }
        Asm.setAll(x, 0, Asm.addi(1, 1, 1), Asm.jal(0, -4));
        return x;
    }

    // "100000 have been in all": the 100000th is still done.
    private void limitIsReached() {
        HartDesk x = deskWithSteps(99000);
        check.same("run(1000) up to 100000", x.run(1000), 1000);
        check.same("steps", x.state(1), 100000);
        check.same("register(1)", x.register(1), 500);
        HartDesk y = deskWithSteps(99999);
        check.same("run(1), the 100000th", y.run(1), 1);
        check.same("steps", y.state(1), 100000);
        check.same("register(1)", y.register(1), 1);
    }

    // "IllegalStateException: 100000 have been in all (no more are done)"
    private void limitIsPassed() {
        HartDesk x = deskWithSteps(100000);
        Shown due = Shown.of(x);
        check.illegalState("run(1) behind 100000", () -> x.run(1));
        check.illegalState("run(1000) behind 100000", () -> x.run(1000));
        due.check(check, "behind 100000", x);
        check.yes("put(32, 0) behind 100000", x.put(32, 0));
        check.illegalState("run(1) with a new PC", () -> x.run(1));
        check.same("register(1)", x.register(1), 0);
    }

    // "IllegalStateException: 100000 have been in all (no more are done)": in the midst of a run.
    private void limitInTheMidst() {
        HartDesk x = deskWithSteps(99999);
        check.illegalState("run(2) from 99999", () -> x.run(2));
        check.same("steps", x.state(1), 100000);
        check.same("the 100000th is done", x.register(1), 1);
        check.same("the next one is not", x.register(32), 4);
    }

    // "less, if it STOPS": with the 100000th too; from there on 100000 have been.
    private void limitAndStop() {
        HartDesk x = deskWithSteps(99999);
        x.set(0, Asm.CALL);
        check.same("run(5) from 99999 with a stop", x.run(5), 1);
        check.same("stopped", x.state(0), 1);
        check.illegalState("run(5) behind that", () -> x.run(5));
        HartDesk y = deskWithSteps(99998);
        y.set(0, Asm.CALL);
        check.same("run(5) from 99998 with a stop", y.run(5), 1);
        check.same("run(5) at 99999 when stopped", y.run(5), 0);
    }

    // Both exceptions would be due: that of the argument comes first.
    private void limitAndAnotherN() {
        HartDesk x = deskWithSteps(100000);
        check.illegalArgument("run(0) behind 100000", () -> x.run(0));
        check.illegalArgument("run(1001) behind 100000", () -> x.run(1001));
    }

    // "All goes back to 0 (MEMORY stays, or with all goes too; the LINE stays)."
    private void resetOfAFullDesk(boolean all, boolean up) {
        HartDesk x = Shown.fullDesk();
        x.line(up);
        Shown due = Shown.allZero().but("state(1)", x.state(1)).but("state(4)", up ? 1 : 0)
            .but("control(836)", up ? 2048 : 0);
        for (int address : Asm.SOME_WORDS) {
            due.but("word(" + address + ")", all ? 0 : x.word(address));
        }
        x.reset(all);
        due.check(check, "reset(" + all + ") with the line " + up, x);
        x.reset(all);
        due.check(check, "reset(" + all + ") once more", x);
    }

    // "All goes back to 0": that it has stopped, too.
    private void resetOfAStoppedDesk(boolean all) {
        HartDesk x = Asm.desk(Asm.NOTHING, Asm.CALL);
        x.run(5);
        check.same("stopped", x.state(0), 1);
        x.reset(all);
        check.same("not stopped", x.state(0), 0);
        check.same("it runs from 0 on", x.run(5), all ? 1 : 2);
    }

    // "All goes back to 0" where it is.
    private void resetOfANewDesk(boolean all) {
        HartDesk x = new HartDesk();
        x.reset(all);
        Shown.allZero().check(check, "reset(" + all + ") of a new object", x);
    }

    // "100000 have been in all": reset() does not take that back.
    private void resetAndTheLimit(boolean all) {
        HartDesk x = deskWithSteps(99999);
        x.reset(all);
        check.same("steps in all", x.state(1), 99999);
        check.same("done since reset()", x.state(2), 0);
        check.same("the 100000th", x.run(1), 1);
        x.reset(all);
        check.illegalState("run(1) behind 100000", () -> x.run(1));
    }

    // "A REGISTER (0 .. 31), or the PC (32)."
    private void registerFirstAndLast() {
        HartDesk x = new HartDesk();
        x.put(1, 11);
        x.put(30, 330);
        x.put(31, 331);
        x.put(32, 332);
        check.same("register(0)", x.register(0), 0);
        check.same("register(1)", x.register(1), 11);
        check.same("register(30)", x.register(30), 330);
        check.same("register(31)", x.register(31), 331);
        check.same("register(32)", x.register(32), 332);
    }

    // "NoSuchElementException: another one." (register)
    private void registerAnother() {
        int[] others = {-1, -2, -32, 33, 34, 63, 64, 288, 65536, GREATEST, LEAST, LEAST + 32};
        HartDesk x = Shown.fullDesk();
        Shown due = Shown.of(x);
        for (int k : others) {
            check.noSuchElement("register(" + k + ")", () -> x.register(k));
        }
        due.check(check, "behind refused register()", x);
    }

    // "A CONTROL."
    private void controlOfEach() {
        HartDesk x = Shown.fullDesk();
        int[] due = {128, 2048, 1024, 0x5C7A7C40, 0x0BACC004, -77, 0x7A1E0001, 2048, 7};
        for (int k = 0; k < due.length; k++) {
            check.same("control(" + Asm.CONTROLS[k] + ")", x.control(Asm.CONTROLS[k]), due[k]);
        }
    }

    // "NoSuchElementException: there is none such." (the neighbours of each, those that other processors have)
    private void controlAnother() {
        int[] others = {-1, 0, 767, 769, 770, 771, 774, 831, 837, 2815, 2817, 2818, 3072, 2944, 4095, 4096, 768 + 4096,
            2816 - 4096, 768 - 65536, GREATEST, LEAST, LEAST + 768};
        HartDesk x = Shown.fullDesk();
        Shown due = Shown.of(x);
        for (int number : others) {
            check.noSuchElement("control(" + number + ")", () -> x.control(number));
        }
        due.check(check, "behind refused control()", x);
    }

    // "The WORD at an address." (word)
    private void wordFirstAndLast() {
        HartDesk x = new HartDesk();
        Asm.setAll(x, 0, 10, 11);
        Asm.setAll(x, 4088, 12, 13);
        check.same("word(0)", x.word(0), 10);
        check.same("word(4)", x.word(4), 11);
        check.same("word(4088)", x.word(4088), 12);
        check.same("word(4092)", x.word(4092), 13);
    }

    // "NoSuchElementException: as set() tells." (word)
    private void wordAsSetTells() {
        int[][] rows = {NOT_BY_4, NOT_IN_MEMORY, NEITHER};
        HartDesk x = Shown.fullDesk();
        Shown due = Shown.of(x);
        for (int[] row : rows) {
            for (int address : row) {
                check.noSuchElement("word(" + address + ")", () -> x.word(address));
            }
        }
        due.check(check, "behind refused word()", x);
    }

    // "What 0 .. 1 .. 2 .. 3 .. 4"
    private void stateOfEach() {
        HartDesk x = Shown.fullDesk();
        int[] due = {0, 8, 7, 1, 1};
        for (int what = 0; what < due.length; what++) {
            check.same("state(" + what + ")", x.state(what), due[what]);
        }
    }

    // "NONE for another what."
    private void stateAnother() {
        int[] others = {-1, -2, 5, 6, 256, 65536, GREATEST, LEAST, LEAST + 1, LEAST + 4};
        HartDesk x = Shown.fullDesk();
        Shown due = Shown.of(x);
        for (int what : others) {
            check.same("state(" + what + ")", x.state(what), -1);
        }
        due.check(check, "behind another what", x);
        check.same("NONE", HartDesk.NONE, -1);
    }

    // "1 if it has STOPPED, else 0", "TRAPS since reset() (with those that STOPPED it)"
    private void stateStopped() {
        HartDesk x = new HartDesk();
        Asm.writeControl(x, Asm.VECTOR, 512);
        Asm.doWord(x, Asm.CALL);
        check.same("a TRAP that does not stop it", x.state(0), 0);
        check.same("traps", x.state(3), 1);
        Asm.writeControl(x, Asm.VECTOR, 0);
        Asm.doWord(x, Asm.CALL);
        check.same("a TRAP that stops it", x.state(0), 1);
        check.same("traps with it", x.state(3), 2);
    }

    // "STEPS in all", "INSTRUCTIONS done since reset()", "TRAPS since reset()"
    private void stateSinceReset() {
        HartDesk x = Asm.desk(Asm.NOTHING, Asm.NOTHING, Asm.CALL);
        for (int round = 1; round <= 3; round++) {
            check.same("run(9)", x.run(9), 3);
            check.same("steps in all", x.state(1), 3 * round);
            check.same("done since reset()", x.state(2), 2);
            check.same("traps since reset()", x.state(3), 1);
            x.reset(false);
            check.same("steps in all behind reset()", x.state(1), 3 * round);
        }
    }
}
