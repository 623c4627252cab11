/** Promise 7: register(). */
final class RegisterTest {
    public static void main(String[] args) {
        Check check = new Check();
        HartDesk x = new HartDesk();
        for (int k = 1; k < 32; k++) {
            x.put(k, -k);
        }
        x.put(32, 40);
        for (int k = 0; k < 32; k++) {
            check.same("register(" + k + ")", x.register(k), -k);
        }
        check.same("PC", x.register(32), 40);
        int[] others = {-1, -2, -32, 33, 34, 64, 65, 4096, Integer.MAX_VALUE, Integer.MIN_VALUE};
        for (int k : others) {
            check.noSuchElement("register(" + k + ")", () -> x.register(k));
        }
        x.set(40, Asm.addi(31, 31, -100));
        x.run(1);
        check.same("register(31)", x.register(31), -131);
        check.same("PC", x.register(32), 44);
        check.end();
    }
}
