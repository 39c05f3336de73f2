/** Promise 10: set. */
final class SetTest {
    private static final int[] VALUES = {0, 1, 7, 8, 9, 127, 128, 247, 248, 254, 255, 256, 257, 264, 300, 65534,
        65535, 65536, 65537, 70000, -1, -8, -255, -256, -257, -65535, -65536, -65537, Integer.MIN_VALUE, Integer.MAX_VALUE};

    public static void main(String[] args) {
        for (int v : VALUES) {
            for (int which = 0; which <= 9; which++) {
                oneValue(which, v);
            }
        }
        instructionsSeeWhatWasSet();
        wrongNumbers();
        Check.end();
    }

    private static void oneValue(int which, int v) {
        Board board = Board.with().having(Board.SP, 0);
        board.kit.set(which, v);
        long due = Math.floorMod((long) v, which >= 8 ? 65536L : 256L);
        if (which == Board.FLAGS) {
            due -= due / 8 % 2 * 8;
        }
        for (int other = 0; other <= 9; other++) {
            Check.equal("set(" + which + ", " + v + "), about(" + other + ")", board.is(other), other == which ? due : 0);
        }
    }

    private static void instructionsSeeWhatWasSet() {
        Board board = Board.with().at(100, 0x80, 0xC5).having(Board.PC, 100).having(Board.A, 3).having(Board.B, 4);
        Check.equal("A of the sum", board.after(1).is(Board.A), 7);
        board.having(Board.C, 9).having(Board.SP, 40).after(1);
        Check.equal("pushed C", board.kit.peek(38), 9);
        Check.equal("pushed B", board.kit.peek(39), 4);
        Board halted = Board.with(Board.HALT).after(1).having(Board.PC, 50);
        Check.equal("it halts still", halted.after(1).is(Board.PC), 50);
        Check.equal("state", halted.is(Board.STATE), 2);
    }

    private static void wrongNumbers() {
        Board board = Board.with();
        int[] wrong = {-1, 10, 11, 12, 13, 14, 15, Integer.MIN_VALUE, Integer.MAX_VALUE};
        for (int which : wrong) {
            Check.refusesIndex("set(" + which + ", 0)", () -> board.kit.set(which, 0));
        }
        Check.equal("masks after refused calls", board.is(Board.MASKS), 7);
    }
}
