/** Promise 5: how many steps run() makes, and what it refuses. */
final class RunTest {
    public static void main(String[] args) {
        Check check = new Check();
        howMany(check);
        wrongNumbers(check);
        stops(check);
        trapsAreSteps(check);
        limit(check);
        limitInTheMiddle(check);
        limitAndStop(check);
        limitAfterReset(check);
        check.end();
    }

    private static void howMany(Check check) {
        HartDesk x = Asm.desk(Asm.addi(1, 1, 1), Asm.jal(0, -4));
        int[] numbers = {1, 2, 3, 10, 999, 1000};
        int in = 0;
        for (int n : numbers) {
            check.same("run(" + n + ")", x.run(n), n);
            in += n;
            check.same("state(1)", x.state(1), in);
            check.same("state(2)", x.state(2), in);
            check.same("register(1)", x.register(1), (in + 1) / 2);
        }
    }

    private static void wrongNumbers(Check check) {
        HartDesk x = Asm.desk(Asm.addi(1, 1, 1));
        int[] numbers = {0, -1, -1000, 1001, 1002, 100000, Integer.MAX_VALUE, Integer.MIN_VALUE};
        for (int n : numbers) {
            check.illegalArgument("run(" + n + ")", () -> x.run(n));
        }
        check.same("no step was made", x.state(1), 0);
        check.same("PC", x.register(32), 0);
        x.run(2);
        check.same("stopped", x.state(0), 1);
        check.illegalArgument("run(0) when stopped", () -> x.run(0));
        check.illegalArgument("run(1001) when stopped", () -> x.run(1001));
    }

    private static void stops(Check check) {
        HartDesk x = Asm.desk(Asm.NOTHING, Asm.NOTHING, Asm.CALL, Asm.NOTHING);
        check.same("run up to the stop", x.run(1000), 3);
        check.same("stopped", x.state(0), 1);
        check.same("steps", x.state(1), 3);
        check.same("done", x.state(2), 2);
        check.same("PC stays", x.register(32), 8);
        check.same("run when stopped", x.run(1), 0);
        check.same("run(1000) when stopped", x.run(1000), 0);
        check.same("steps stay", x.state(1), 3);
        check.same("traps stay", x.state(3), 1);
        HartDesk y = Asm.desk(Asm.NOTHING, Asm.CALL);
        check.same("the stop as the last step", y.run(2), 2);
        check.same("it is stopped", y.state(0), 1);
        HartDesk z = Asm.desk(Asm.NOTHING, Asm.CALL);
        check.same("short of the stop", z.run(1), 1);
        check.same("it is not stopped", z.state(0), 0);
    }

    private static void trapsAreSteps(Check check) {
        HartDesk x = new HartDesk();
        Asm.writeControl(x, Asm.VECTOR, 256);
        Asm.setAll(x, 256, Asm.CALL);
        x.put(32, 256);
        check.same("a trap that comes to itself", x.run(1000), 1000);
        check.same("steps", x.state(1), 1001);
        check.same("done", x.state(2), 1);
        check.same("traps", x.state(3), 1000);
        check.same("not stopped", x.state(0), 0);
    }

    private static HartDesk deskWithSteps(int steps) {
        HartDesk x = Asm.desk(Asm.STAY);
        int left = steps;
        while (left > 0) {
            left -= x.run(Math.min(left, 1000));
        }
        return x;
    }

    private static void limit(Check check) {
        HartDesk x = deskWithSteps(100000);
        check.same("steps", x.state(1), 100000);
        check.illegalState("run(1) behind 100000", () -> x.run(1));
        check.illegalState("run(1000) behind 100000", () -> x.run(1000));
        check.illegalArgument("run(0) behind 100000", () -> x.run(0));
        check.illegalArgument("run(1001) behind 100000", () -> x.run(1001));
        check.same("steps stay", x.state(1), 100000);
        check.same("done stays", x.state(2), 100000);
        check.same("DONE stays", x.control(Asm.DONE), 100000);
        HartDesk y = deskWithSteps(99999);
        check.same("the last step", y.run(1), 1);
        check.illegalState("one more", () -> y.run(1));
    }

    private static void limitInTheMiddle(Check check) {
        HartDesk x = deskWithSteps(99990);
        Asm.setAll(x, 0, Asm.addi(1, 1, 1), Asm.jal(0, -4));
        check.illegalState("run over the limit", () -> x.run(11));
        check.same("steps up to the limit are done", x.state(1), 100000);
        check.same("and no more", x.register(1), 5);
        HartDesk y = deskWithSteps(99990);
        check.same("run up to the limit", y.run(10), 10);
        check.same("steps", y.state(1), 100000);
    }

    private static void limitAndStop(Check check) {
        HartDesk x = deskWithSteps(99999);
        x.set(0, 0);
        check.same("the last step stops it", x.run(7), 1);
        check.same("stopped", x.state(0), 1);
        check.illegalState("run when stopped behind 100000", () -> x.run(1));
        HartDesk y = deskWithSteps(99998);
        y.set(0, 0);
        check.same("the last but one stops it", y.run(7), 1);
        check.same("run when stopped ahead of 100000", y.run(7), 0);
    }

    private static void limitAfterReset(Check check) {
        HartDesk x = deskWithSteps(100000);
        x.reset(true);
        check.same("steps in all", x.state(1), 100000);
        check.illegalState("run behind reset", () -> x.run(1));
    }
}
