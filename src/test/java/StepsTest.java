/** Promise 5: steps. */
final class StepsTest {
    public static void main(String[] args) {
        ticksAreSummed();
        sameAsSingleSteps();
        wrongNumbers();
        Check.end();
    }

    private static void ticksAreSummed() {
        KeyboardKit kit = new KeyboardKit();
        Check.equal("steps(0)", kit.steps(0), 0);
        Check.equal("PC after steps(0)", kit.about(Board.PC), 0);
        Check.equal("steps(1)", kit.steps(1), 4);
        Check.equal("PC after steps(1)", kit.about(Board.PC), 1);
        Check.equal("steps(200)", kit.steps(200), 800);
        Check.equal("PC after steps(200)", kit.about(Board.PC), 201);
        Check.equal("steps of many kinds", Board.with(0x3E, 1, 0x32, 0, 2, 0xC5, 0x76).kit.steps(6), 7 + 13 + 10 + 4 + 4 + 4);
    }

    private static void sameAsSingleSteps() {
        int[] program = {0x21, 0, 1, 0x34, 0x3E, 9, 0x86, 0xCD, 13, 0, 0xC3, 0, 0, 0x2F, 0xC9};
        Board one = Board.with(program);
        Board many = Board.with(program);
        int ticks = 0;
        for (int i = 0; i < 150; i++) {
            ticks += one.kit.step();
        }
        Check.equal("steps(150)", many.kit.steps(150), ticks);
        for (int which = 0; which <= 14; which++) {
            Check.equal("about(" + which + ")", many.is(which), one.is(which));
        }
        Check.equal("peek(256)", many.kit.peek(256), one.kit.peek(256));
    }

    private static void wrongNumbers() {
        KeyboardKit kit = new KeyboardKit();
        int[] wrong = {-1, 201, -200, 1000, Integer.MIN_VALUE, Integer.MAX_VALUE};
        for (int n : wrong) {
            Check.refuses("steps(" + n + ")", IllegalArgumentException.class, () -> kit.steps(n));
        }
        Check.equal("PC after refused steps", kit.about(Board.PC), 0);
    }
}
