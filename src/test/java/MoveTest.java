/** Promise 4: instructions that move bytes and pairs; none of them changes flags. */
final class MoveTest {
    private static final int[] START = {0x11, 0x22, 0x33, 0x44, 0x01, 0x66, 0, 0x88};
    private static final int M = 6;
    private static final int M_ADDRESS = 0x166;
    private static final int M_BYTE = 0x99;

    public static void main(String[] args) {
        registerToRegister();
        byteToRegister();
        wordToPair();
        byAddress();
        exchanges();
        Check.end();
    }

    private static Board start(int... program) {
        Board board = Board.with(program).at(M_ADDRESS, M_BYTE).having(Board.FLAGS, 0x56 & 247);
        for (int r = 0; r < 8; r++) {
            if (r != M) {
                board.having(r, START[r]);
            }
        }
        return board;
    }

    private static int value(int r) {
        return r == M ? M_BYTE : START[r];
    }

    /** Looks at all registers: one has a new value, the others are as at the start. */
    private static void onlyChanged(String what, Board board, int changed, int v) {
        for (int r = 0; r < 8; r++) {
            if (r != M) {
                Check.equal(what + ": register " + r, board.is(r), r == changed ? v : START[r]);
            }
        }
        Check.equal(what + ": M", board.kit.peek(M_ADDRESS), changed == M ? v : M_BYTE);
        Check.equal(what + ": flags", board.is(Board.FLAGS), 0x56 & 247);
    }

    private static void registerToRegister() {
        for (int to = 0; to < 8; to++) {
            for (int from = 0; from < 8; from++) {
                if (to != M || from != M) {
                    Board board = start(64 + 8 * to + from).after(1);
                    onlyChanged("move " + to + " from " + from, board, to, value(from));
                }
            }
        }
        Board halted = start(Board.HALT).after(1);
        onlyChanged("HALT", halted, M, M_BYTE);
        Check.equal("it halts", halted.is(Board.STATE), 2);
    }

    private static void byteToRegister() {
        for (int to = 0; to < 8; to++) {
            onlyChanged("byte to " + to, start(8 * to + 6, 0xAB).after(1), to, 0xAB);
        }
    }

    private static void wordToPair() {
        for (int p = 0; p < 4; p++) {
            Board board = start(16 * p + 1, 0xCD, 0xAB).after(1);
            Check.equal("pair " + p, p == 3 ? board.is(Board.SP) : board.pair(2 * p), 0xABCD);
            Check.equal("flags", board.is(Board.FLAGS), 0x56 & 247);
            Check.equal("SP", board.is(Board.SP), p == 3 ? 0xABCD : 512);
        }
        Check.equal("SP becomes HL", start(0xF9).after(1).is(Board.SP), 0x0166);
        Check.equal("PC becomes HL", start(0xE9).after(1).is(Board.PC), 0x0166);
        Check.equal("SP stays then", start(0xE9).after(1).is(Board.SP), 512);
    }

    private static void byAddress() {
        Check.equal("A to BC", start(0x02).after(1).kit.peek(0x1122), 0x88);
        Check.equal("A to DE", start(0x12).after(1).kit.peek(0x3344), 0x88);
        onlyChanged("A from BC", start(0x0A).at(0x1122, 0x5A).after(1), Board.A, 0x5A);
        onlyChanged("A from DE", start(0x1A).at(0x3344, 0x5B).after(1), Board.A, 0x5B);
        Board stored = start(0x22, 0xFF, 0x03).after(1);
        Check.equal("L to w", stored.kit.peek(0x3FF), 0x66);
        Check.equal("H to the next, which is byte 0", stored.kit.peek(0), 0x01);
        Board loaded = start(0x2A, 0xFF, 0x02).at(0x2FF, 0x12, 0x34).after(1);
        Check.equal("HL from w", loaded.pair(Board.H), 0x3412);
        Check.equal("flags", loaded.is(Board.FLAGS), 0x56 & 247);
        Check.equal("A to w", start(0x32, 0x00, 0xFE).after(1).kit.peek(0x200), 0x88);
        onlyChanged("A from w", start(0x3A, 0x00, 0xFE).at(0x200, 0x5C).after(1), Board.A, 0x5C);
    }

    private static void exchanges() {
        Board stack = start(0xE3).at(512, 0x12, 0x34).after(1);
        Check.equal("HL from the stack", stack.pair(Board.H), 0x3412);
        Check.equal("L to the first byte", stack.kit.peek(512), 0x66);
        Check.equal("H to the second", stack.kit.peek(513), 0x01);
        Check.equal("SP stays", stack.is(Board.SP), 512);
        Check.equal("flags", stack.is(Board.FLAGS), 0x56 & 247);
        Board round = start().at(5, 0xE3).at(0xFFFF, 0x12).at(0, 0x34).having(Board.SP, 0xFFFF).having(Board.PC, 5).after(1);
        Check.equal("HL over the end", round.pair(Board.H), 0x3412);
        Check.equal("byte 0", round.kit.peek(0), 0x01);
        Board pairs = start(0xEB).after(1);
        Check.equal("HL from DE", pairs.pair(Board.H), 0x3344);
        Check.equal("DE from HL", pairs.pair(Board.D), 0x0166);
        Check.equal("flags", pairs.is(Board.FLAGS), 0x56 & 247);
    }
}
