import java.util.LinkedHashMap;
import java.util.Map;

/** All that a desk shows, so that a test can tell that nothing but what it names has changed; 79 calls a time. */
final class Shown {
    private final Map<String, Integer> values = new LinkedHashMap<>();

    private Shown() {
    }

    static Shown of(HartDesk x) {
        Shown shown = new Shown();
        for (int k = 0; k <= 32; k++) {
            shown.values.put("register(" + k + ")", x.register(k));
        }
        for (int number : Asm.CONTROLS) {
            shown.values.put("control(" + number + ")", x.control(number));
        }
        for (int what = 0; what <= 4; what++) {
            shown.values.put("state(" + what + ")", x.state(what));
        }
        for (int address : Asm.SOME_WORDS) {
            shown.values.put("word(" + address + ")", x.word(address));
        }
        return shown;
    }

    static Shown allZero() {
        Shown shown = of(new HartDesk());
        shown.values.replaceAll((call, value) -> 0);
        return shown;
    }

    /** A desk in which all is other than 0 that can be: the PC at 128, VECTOR 1024, bit 3 of STATUS alone 0. */
    static HartDesk fullDesk() {
        HartDesk x = new HartDesk();
        Asm.doWord(x, Asm.CALL);
        int[] numbers = {Asm.STATUS, Asm.ENABLED, Asm.VECTOR, Asm.SCRATCH, Asm.BACK, Asm.CAUSE, Asm.VALUE};
        int[] held = {128, 2048, 1024, 0x5C7A7C40, 0x0BACC004, -77, 0x7A1E0001};
        for (int k = 0; k < numbers.length; k++) {
            Asm.writeControl(x, numbers[k], held[k]);
        }
        for (int k = 1; k < 32; k++) {
            x.put(k, k * 0x01020305);
        }
        for (int address : Asm.SOME_WORDS) {
            x.set(address, address ^ 0x5A6B7C00);
        }
        x.line(true);
        x.put(32, 128);
        return x;
    }

    Shown but(String call, int value) {
        if (!values.containsKey(call)) {
            throw new IllegalArgumentException(call + " is not among what is shown");
        }
        values.put(call, value);
        return this;
    }

    Shown more(String call, int by) {
        return but(call, values.get(call) + by);
    }

    /** What a TRAP changes, in a desk whose bit 3 of STATUS is 0. */
    Shown butTrap(int cause, int value, int pc) {
        int vector = values.get("control(773)");
        return but("control(768)", 0).but("control(833)", pc).but("control(834)", cause).but("control(835)", value)
            .but("register(32)", vector == 0 ? pc : vector).but("state(0)", vector == 0 ? 1 : 0)
            .more("state(1)", 1).more("state(3)", 1);
    }

    /** What an INSTRUCTION changes that does nothing else. */
    Shown butDone(int pc) {
        return but("register(32)", pc).more("state(1)", 1).more("state(2)", 1).more("control(2816)", 1);
    }

    void check(Check check, String what, HartDesk x) {
        Map<String, Integer> now = of(x).values;
        for (Map.Entry<String, Integer> due : values.entrySet()) {
            check.same(what + ": " + due.getKey(), now.get(due.getKey()), due.getValue());
        }
    }
}
