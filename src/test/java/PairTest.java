/** Promise 4: pairs that count and come to HL, PUSH and POP. */
final class PairTest {
    private static final int[] WORDS = {0, 1, 2, 0x00FF, 0x0100, 0x7FFF, 0x8000, 0x8001, 0xFF00, 0xFFFE, 0xFFFF};

    public static void main(String[] args) {
        for (int p = 0; p < 4; p++) {
            for (int v : WORDS) {
                count(p, v, 0);
                count(p, v, 247);
                for (int hl : WORDS) {
                    comesToHl(p, v, hl, 0);
                    comesToHl(p, v, hl, 247);
                }
            }
        }
        for (int p = 0; p < 4; p++) {
            pushAndPop(p);
        }
        flagsPopped();
        stackGoesRound();
        Check.end();
    }

    private static void putPair(Board board, int p, int v) {
        if (p == 3) {
            board.having(Board.SP, v);
        } else {
            board.having(2 * p, v / 256).having(2 * p + 1, v);
        }
    }

    private static int pair(Board board, int p) {
        return p == 3 ? board.is(Board.SP) : board.pair(2 * p);
    }

    private static void count(int p, int v, int flags) {
        for (int by = -1; by <= 1; by += 2) {
            Board board = Board.with(16 * p + (by > 0 ? 3 : 11)).having(Board.FLAGS, flags);
            putPair(board, p, v);
            board.after(1);
            int due = Math.floorMod(v + by, 65536);
            boolean k = by > 0 ? due == 0 : due == 65535;
            Check.equal("pair " + p + " of " + v + " by " + by, pair(board, p), due);
            Check.equal("its flags", board.is(Board.FLAGS), (flags & ~32) + (k ? 32 : 0));
        }
    }

    private static void comesToHl(int p, int v, int hl, int flags) {
        Board board = Board.with(16 * p + 9).having(Board.FLAGS, flags);
        putPair(board, 2, hl);
        putPair(board, p, v);
        int sum = p == 2 ? v + v : hl + v;
        board.after(1);
        Check.equal("pair " + p + " of " + v + " to " + hl, board.pair(Board.H), sum % 65536);
        Check.equal("its flags", board.is(Board.FLAGS), (flags & ~1) + sum / 65536);
        Check.equal("the pair stays", pair(board, p), p == 2 ? sum % 65536 : v);
    }

    private static void pushAndPop(int p) {
        int high = p == 3 ? Board.A : 2 * p;
        int low = p == 3 ? Board.FLAGS : 2 * p + 1;
        Board board = Board.with(192 + 16 * p + 5, 192 + 16 * p + 1).having(high, 0xAB).having(low, 0xC5).after(1);
        Check.equal("SP behind PUSH", board.is(Board.SP), 510);
        Check.equal("high byte", board.kit.peek(511), 0xAB);
        Check.equal("low byte", board.kit.peek(510), 0xC5);
        board.at(510, 0x52, 0x34).after(1);
        Check.equal("SP behind POP", board.is(Board.SP), 512);
        for (int which = 0; which < 8; which++) {
            int due = which == high ? 0x34 : which == low ? 0x52 : 0;
            Check.equal("POP " + p + ": about(" + which + ")", board.is(which), due);
        }
    }

    private static void flagsPopped() {
        Board board = Board.with(0xF1, 0xF5).at(512, 255, 1).after(1);
        Check.equal("bit 3 is read for nothing", board.is(Board.FLAGS), 247);
        Check.equal("flags that are pushed", board.after(1).kit.peek(512), 247);
    }

    private static void stackGoesRound() {
        Board board = Board.with(0xC5, 0xD1).having(Board.SP, 1).having(Board.B, 7).having(Board.C, 9);
        board.at(100, 0xC5, 0xD1).having(Board.PC, 100).after(1);
        Check.equal("SP went round", board.is(Board.SP), 65535);
        Check.equal("low byte at the end", board.kit.peek(1023), 9);
        Check.equal("high byte at 0", board.kit.peek(0), 7);
        board.after(1);
        Check.equal("SP came back", board.is(Board.SP), 1);
        Check.equal("DE", board.pair(Board.D), 0x0709);
    }
}
