/** Promise 7: line. */
final class LineTest {
    public static void main(String[] args) {
        for (int l = 0; l < 2; l++) {
            KeyboardKit kit = new KeyboardKit();
            Check.equal("first line(" + l + ", true)", kit.line(l, true), false);
            Check.equal("again line(" + l + ", true)", kit.line(l, true), true);
            Check.equal("the other line", kit.line(1 - l, false), false);
            Check.equal("line(" + l + ", false)", kit.line(l, false), true);
            Check.equal("again line(" + l + ", false)", kit.line(l, false), false);
        }
        linesInTheMask();
        wrongNumbers();
        Check.end();
    }

    private static void linesInTheMask() {
        Board board = Board.with(Board.READ_MASK, Board.READ_MASK, Board.READ_MASK, Board.READ_MASK);
        board.kit.line(0, true);
        Check.equal("mask with line 0", board.after(1).is(Board.A), 7 + 32);
        board.kit.line(1, true);
        Check.equal("mask with both lines", board.after(1).is(Board.A), 7 + 32 + 128);
        board.kit.line(0, false);
        Check.equal("mask with line 1", board.after(1).is(Board.A), 7 + 128);
        board.kit.line(1, false);
        Check.equal("mask with none", board.after(1).is(Board.A), 7);
    }

    private static void wrongNumbers() {
        Board board = Board.with(Board.READ_MASK);
        int[] wrong = {-1, 2, 3, 65, Integer.MIN_VALUE, Integer.MAX_VALUE};
        for (int l : wrong) {
            Check.refusesIndex("line(" + l + ", true)", () -> board.kit.line(l, true));
        }
        Check.equal("mask after refused calls", board.after(1).is(Board.A), 7);
    }
}
