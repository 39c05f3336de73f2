/** Promise 4: jumps, calls and returns, by every condition and every flag. */
final class JumpTest {
    private static final int[] CONDITION_FLAGS = {64, 1, 4, 128};

    public static void main(String[] args) {
        for (int flags = 0; flags < 256; flags++) {
            if (flags / 8 % 2 == 0) {
                for (int y = 0; y < 8; y++) {
                    boolean is = (flags & CONDITION_FLAGS[y / 2]) != 0;
                    conditional(y, flags, is == (y % 2 == 1));
                }
                goes(0xDD, flags, (flags & 32) == 0 ? 0x234 : 3, 512);
                goes(0xFD, flags, (flags & 32) != 0 ? 0x234 : 3, 512);
                boolean v = (flags & 2) != 0;
                goes(0xCB, flags, v ? 64 : 1, v ? 510 : 512);
                goes(0xC3, flags, 0x234, 512);
                goes(0xCD, flags, 0x234, 510);
                goes(0xC9, flags, 0x345, 514);
            }
        }
        for (int y = 0; y < 8; y++) {
            goes(199 + 8 * y, 0, 8 * y, 510);
        }
        nested();
        farAddresses();
        Check.end();
    }

    private static void conditional(int y, int flags, boolean met) {
        goes(192 + 8 * y, flags, met ? 0x345 : 1, met ? 514 : 512);
        goes(194 + 8 * y, flags, met ? 0x234 : 3, 512);
        goes(196 + 8 * y, flags, met ? 0x234 : 3, met ? 510 : 512);
    }

    private static void goes(int instruction, int flags, int pc, int sp) {
        Board board = Board.with(instruction, 0x34, 0x02).at(512, 0x45, 0x03).having(Board.FLAGS, flags).after(1);
        Check.equal("PC behind " + instruction + ", flags " + flags, board.is(Board.PC), pc);
        Check.equal("SP behind " + instruction + ", flags " + flags, board.is(Board.SP), sp);
        Check.equal("flags behind " + instruction, board.is(Board.FLAGS), flags);
    }

    private static void nested() {
        // A call of 16, which calls 32, and both return.
        Board board = Board.with(0xCD, 16, 0, 0x3C).at(16, 0xCD, 32, 0, 0xC9).at(32, 0x04, 0xC9).after(6);
        Check.equal("PC", board.is(Board.PC), 4);
        Check.equal("A", board.is(Board.A), 1);
        Check.equal("B", board.is(Board.B), 1);
        Check.equal("SP", board.is(Board.SP), 512);
        Check.equal("the outer return", board.kit.peek(510), 3);
        Check.equal("the inner return", board.kit.peek(508), 19);
    }

    private static void farAddresses() {
        Board board = Board.with(0xC3, 0xFE, 0xFF).at(0xFFFE, 0xCF).after(1);
        Check.equal("PC far away", board.is(Board.PC), 0xFFFE);
        board.after(1);
        Check.equal("return's low byte", board.kit.peek(510), 0xFF);
        Check.equal("return's high byte", board.kit.peek(511), 0xFF);
        Check.equal("PC", board.is(Board.PC), 8);
    }
}
