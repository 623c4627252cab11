import java.math.BigInteger;

/** Promise 5: ops 19 and 51. */
final class ComputeTest {
    private static final BigInteger TWO_32 = BigInteger.ONE.shiftLeft(32);

    public static void main(String[] args) {
        Check check = new Check();
        withNumber(check);
        shiftsByNumber(check);
        withRegisters(check);
        namedEdges(check);
        sameRegister(check);
        otherForms(check);
        check.end();
    }

    private static BigInteger signed(int v) {
        return BigInteger.valueOf(v);
    }

    private static BigInteger unsigned(int v) {
        return BigInteger.valueOf(v).mod(TWO_32);
    }

    private static int basicDue(int f, int x, int y) {
        switch (f) {
            case 0: return signed(x).add(signed(y)).intValue();
            case 1: return signed(x).shiftLeft(y & 31).intValue();
            case 2: return signed(x).compareTo(signed(y)) < 0 ? 1 : 0;
            case 3: return unsigned(x).compareTo(unsigned(y)) < 0 ? 1 : 0;
            case 4: return signed(x).xor(signed(y)).intValue();
            case 5: return unsigned(x).shiftRight(y & 31).intValue();
            case 6: return signed(x).or(signed(y)).intValue();
            default: return signed(x).and(signed(y)).intValue();
        }
    }

    private static int longDue(int f, int x, int y) {
        switch (f) {
            case 0: return signed(x).multiply(signed(y)).intValue();
            case 1: return signed(x).multiply(signed(y)).shiftRight(32).intValue();
            case 2: return signed(x).multiply(unsigned(y)).shiftRight(32).intValue();
            case 3: return unsigned(x).multiply(unsigned(y)).shiftRight(32).intValue();
            case 4: return y == 0 ? -1 : signed(x).divide(signed(y)).intValue();
            case 5: return y == 0 ? -1 : unsigned(x).divide(unsigned(y)).intValue();
            case 6: return y == 0 ? x : signed(x).remainder(signed(y)).intValue();
            default: return y == 0 ? x : unsigned(x).remainder(unsigned(y)).intValue();
        }
    }

    private static void checkDone(Check check, String what, HartDesk x, int word, int due) {
        check.same("step", Asm.doWord(x, word), 1);
        check.same(what, x.register(3), due);
        check.same(what + " PC", x.register(32), 4);
    }

    private static void withNumber(Check check) {
        int[] ways = {0, 2, 3, 4, 6, 7};
        int[] numbers = {0, 1, 5, 31, 32, 2047, -1, -2, -2048};
        for (int f : ways) {
            for (int left : Asm.EDGES) {
                HartDesk x = new HartDesk();
                x.put(1, left);
                for (int number : numbers) {
                    checkDone(check, "op 19 f " + f + " of " + left + ", " + number, x, Asm.i(19, 3, f, 1, number),
                        basicDue(f, left, number));
                }
            }
        }
    }

    private static void shiftsByNumber(Check check) {
        for (int left : Asm.EDGES) {
            HartDesk x = new HartDesk();
            x.put(1, left);
            for (int by = 0; by < 32; by++) {
                checkDone(check, "left by " + by, x, Asm.r(19, 3, 1, 1, by, 0), basicDue(1, left, by));
                checkDone(check, "right by " + by, x, Asm.r(19, 3, 5, 1, by, 0), basicDue(5, left, by));
                checkDone(check, "right with sign by " + by, x, Asm.r(19, 3, 5, 1, by, 32),
                    signed(left).shiftRight(by).intValue());
            }
        }
    }

    private static void withRegisters(Check check) {
        for (int left : Asm.EDGES) {
            for (int right : Asm.EDGES) {
                HartDesk x = new HartDesk();
                x.put(1, left);
                x.put(2, right);
                String of = " of " + left + ", " + right;
                for (int f = 0; f < 8; f++) {
                    checkDone(check, "s 0 f " + f + of, x, Asm.r(51, 3, f, 1, 2, 0), basicDue(f, left, right));
                    checkDone(check, "s 1 f " + f + of, x, Asm.r(51, 3, f, 1, 2, 1), longDue(f, left, right));
                }
                checkDone(check, "s 32 f 0" + of, x, Asm.r(51, 3, 0, 1, 2, 32),
                    signed(left).subtract(signed(right)).intValue());
                checkDone(check, "s 32 f 5" + of, x, Asm.r(51, 3, 5, 1, 2, 32),
                    signed(left).shiftRight(right & 31).intValue());
                check.same("done", x.state(2), 18);
                check.same("A stays", x.register(1), left);
                check.same("B stays", x.register(2), right);
            }
        }
    }

    private static int longOf(int f, int left, int right) {
        HartDesk x = new HartDesk();
        x.put(1, left);
        x.put(2, right);
        Asm.doWord(x, Asm.r(51, 3, f, 1, 2, 1));
        return x.register(3);
    }

    private static void namedEdges(Check check) {
        int least = Integer.MIN_VALUE;
        check.same("7 / 0", longOf(4, 7, 0), -1);
        check.same("-7 / 0", longOf(4, -7, 0), -1);
        check.same("0 / 0", longOf(4, 0, 0), -1);
        check.same("least / -1", longOf(4, least, -1), least);
        check.same("-7 / 2", longOf(4, -7, 2), -3);
        check.same("7 / -2", longOf(4, 7, -2), -3);
        check.same("7 / 0 unsigned", longOf(5, 7, 0), -1);
        check.same("least / -1 unsigned", longOf(5, least, -1), 0);
        check.same("-1 / 2 unsigned", longOf(5, -1, 2), Integer.MAX_VALUE);
        check.same("rest 7 by 0", longOf(6, 7, 0), 7);
        check.same("rest -7 by 0", longOf(6, -7, 0), -7);
        check.same("rest least by -1", longOf(6, least, -1), 0);
        check.same("rest -7 by 2", longOf(6, -7, 2), -1);
        check.same("rest 7 by -2", longOf(6, 7, -2), 1);
        check.same("rest -7 by 0 unsigned", longOf(7, -7, 0), -7);
        check.same("rest least by -1 unsigned", longOf(7, least, -1), least);
        check.same("rest -1 by 10 unsigned", longOf(7, -1, 10), 5);
        check.same("-1 * -1 upper", longOf(1, -1, -1), 0);
        check.same("-1 * -1 upper, B without sign", longOf(2, -1, -1), -1);
        check.same("1 * -1 upper, B without sign", longOf(2, 1, -1), 0);
        check.same("-1 * -1 upper without sign", longOf(3, -1, -1), -2);
        check.same("least * least upper", longOf(1, least, least), 0x40000000);
        check.same("least * least upper, B without sign", longOf(2, least, least), 0xC0000000);
    }

    private static void sameRegister(Check check) {
        HartDesk x = new HartDesk();
        x.put(3, 11);
        Asm.doWord(x, Asm.r(51, 3, 0, 3, 3, 0));
        check.same("d as a and b", x.register(3), 22);
        Asm.doWord(x, Asm.r(51, 3, 0, 3, 3, 1));
        check.same("d as a and b, product", x.register(3), 484);
        Asm.doWord(x, Asm.addi(3, 3, -4));
        check.same("d as a", x.register(3), 480);
    }

    private static void otherForms(Check check) {
        for (int s = 0; s < 128; s++) {
            for (int f = 0; f < 8; f++) {
                boolean known51 = s == 0 || s == 1 || s == 32 && (f == 0 || f == 5);
                boolean known19 = f != 1 && f != 5 || s == 0 || s == 32 && f == 5;
                form(check, Asm.r(51, 3, f, 1, 2, s), known51);
                form(check, Asm.r(19, 3, f, 1, 2, s), known19);
            }
        }
    }

    private static void form(Check check, int word, boolean known) {
        HartDesk x = new HartDesk();
        x.put(1, 100);
        x.put(2, 7);
        x.put(3, 123456);
        Asm.doWordAt(x, 12, word);
        check.same("stopped by " + word, x.state(0), known ? 0 : 1);
        check.same("done", x.state(2), known ? 1 : 0);
        if (!known) {
            check.same("CAUSE", x.control(Asm.CAUSE), 2);
            check.same("VALUE", x.control(Asm.VALUE), word);
            check.same("BACK", x.control(Asm.BACK), 12);
            check.same("d stays", x.register(3), 123456);
        }
    }
}
