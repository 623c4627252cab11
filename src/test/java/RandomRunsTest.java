/** All promises: many objects, each with calls drawn by a fixed rule, compared with the Model behind each run(). */
final class RandomRunsTest {
    private static final int OBJECTS = 1500;
    private static final int CALLS = 40;
    private static final int[] OPS = {55, 23, 111, 103, 99, 99, 3, 3, 35, 35, 19, 19, 19, 51, 51, 51, 51, 15, 115, 115};
    private static final int[] STARTS = {0, 4, 8, 64, 128, 256, 512, 1000, 2048, 4000, 4088, 4092};

    private final Check check = new Check();
    private long seed = 20240607L;

    public static void main(String[] args) {
        RandomRunsTest test = new RandomRunsTest();
        for (int k = 0; k < OBJECTS; k++) {
            test.oneObject(k);
        }
        test.check.end();
    }

    private int draw(int bound) {
        seed = seed * 6364136223846793005L + 1442695040888963407L;
        return (int) ((seed >>> 33) % bound);
    }

    private int anyInt() {
        return draw(65536) << 16 | draw(65536);
    }

    private int someInt() {
        switch (draw(4)) {
            case 0: return anyInt();
            case 1: return Asm.EDGES[draw(Asm.EDGES.length)];
            case 2: return draw(4200);
            default: return 4 * draw(1030);
        }
    }

    private int someWord() {
        int word = anyInt();
        if (draw(20) == 0) {
            return word;
        }
        int op = OPS[draw(OPS.length)];
        word = word & ~127 | op;
        if (op == 51) {
            int[] s = {0, 0, 1, 1, 1, 32, 32, draw(128)};
            word = word & 0x01FFFFFF | s[draw(s.length)] << 25;
        }
        if (op == 19 && draw(2) == 0) {
            word = word & 0x01FFFFFF | 32 * draw(2) << 25;
        }
        if (op == 111) {
            return Asm.jal(draw(32), 4 * (draw(40) - 20) + (draw(10) == 0 ? 2 : 0));
        }
        if (op == 99) {
            return Asm.branch(draw(8), draw(32), draw(32), 4 * (draw(40) - 20) + (draw(10) == 0 ? 2 : 0));
        }
        if ((op == 3 || op == 35 || op == 103) && draw(3) > 0) {
            word &= 0x01FFFFFF;
        }
        return op == 115 ? systemWord(word) : word;
    }

    private int systemWord(int word) {
        int[] fixed = {Asm.CALL, Asm.BREAK, Asm.RETURN, Asm.RETURN};
        if (draw(4) == 0) {
            return fixed[draw(fixed.length)];
        }
        int number = draw(12) == 0 ? draw(4096) : Asm.CONTROLS[draw(Asm.CONTROLS.length)];
        return word & 0x000FFFFF | number << 20;
    }

    private void oneObject(int k) {
        HartDesk x = new HartDesk();
        Model model = new Model();
        int start = STARTS[draw(STARTS.length)];
        for (int word = 0; word < 60; word++) {
            set(x, model, start + 4 * word, someWord());
        }
        for (int register = 1; register < 32; register++) {
            put(x, model, register, someInt());
        }
        put(x, model, 32, start);
        for (int call = 0; call < CALLS; call++) {
            oneCall(x, model);
        }
        compare("object " + k, x, model);
    }

    private void set(HartDesk x, Model model, int address, int word) {
        check.same("set", x.set(address, word) ? 1 : 0, model.set(address, word) ? 1 : 0);
    }

    private void put(HartDesk x, Model model, int register, int v) {
        check.same("put", x.put(register, v) ? 1 : 0, model.put(register, v) ? 1 : 0);
    }

    private void oneCall(HartDesk x, Model model) {
        switch (draw(12)) {
            case 0 -> set(x, model, 4 * draw(1030) + (draw(8) == 0 ? draw(4) : 0), someWord());
            case 1 -> put(x, model, draw(34), someInt());
            case 2, 3 -> put(x, model, 32, 4 * draw(1024));
            case 4, 5 -> {
                boolean up = draw(2) == 0;
                x.line(up);
                model.up = up;
            }
            case 6 -> {
                if (draw(6) == 0) {
                    boolean all = draw(4) == 0;
                    x.reset(all);
                    model.reset(all);
                }
            }
            default -> {
                int n = 1 + draw(draw(4) == 0 ? 50 : 4);
                check.same("run(" + n + ")", x.run(n), model.run(n));
                compareSome(x, model);
            }
        }
    }

    private void compareSome(HartDesk x, Model model) {
        int[] states = {model.stopped ? 1 : 0, model.steps, model.done, model.traps, model.up ? 1 : 0};
        int what = draw(5);
        check.same("state(" + what + ")", x.state(what), states[what]);
        check.same("PC", x.register(32), model.registers[32]);
        int k = draw(32);
        check.same("register(" + k + ")", x.register(k), model.registers[k]);
        int number = Asm.CONTROLS[draw(Asm.CONTROLS.length)];
        check.same("control(" + number + ")", x.control(number), model.control(number));
        int address = 4 * draw(1024);
        check.same("word(" + address + ")", x.word(address), model.word(address));
    }

    /** Some 200 calls, so that an object stays below its 512. */
    private void compare(String what, HartDesk x, Model model) {
        for (int k = 0; k <= 32; k++) {
            check.same(what + " register(" + k + ")", x.register(k), model.registers[k]);
        }
        for (int number : Asm.CONTROLS) {
            check.same(what + " control(" + number + ")", x.control(number), model.control(number));
        }
        int first = 4 * draw(900);
        for (int address = first; address < first + 400; address += 4) {
            check.same(what + " word(" + address + ")", x.word(address), model.word(address));
        }
        for (int address : Asm.SOME_WORDS) {
            check.same(what + " word(" + address + ")", x.word(address), model.word(address));
        }
        int[] states = {model.stopped ? 1 : 0, model.steps, model.done, model.traps, model.up ? 1 : 0};
        for (int state = 0; state < states.length; state++) {
            check.same(what + " state(" + state + ")", x.state(state), states[state]);
        }
    }
}
