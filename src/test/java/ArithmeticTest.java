/**
 * Promise 4: sums, differences and bitwise operations, for all bytes. The flags that are due are told by signed numbers
 * here, not by the bits that the document tells: V is a result outside -128 .. 127, and K a true result below 0.
 */
final class ArithmeticTest {
    private static final int CASES_PER_OBJECT = 60;
    private static Board board;
    private static int uses = CASES_PER_OBJECT;

    public static void main(String[] args) {
        for (int a = 0; a < 256; a++) {
            for (int b = 0; b < 256; b++) {
                for (int y = 0; y < 8; y++) {
                    operation(y, a, b, (a + b) % 2);
                    if (y == 1 || y == 3) {
                        operation(y, a, b, (a + b + 1) % 2);
                    }
                }
            }
        }
        operands();
        increments();
        Check.end();
    }

    private static Board fresh() {
        if (uses == CASES_PER_OBJECT) {
            uses = 0;
            board = Board.with();
        }
        uses++;
        return board;
    }

    static int signed(int v) {
        return v < 128 ? v : v - 256;
    }

    static int flagsOf(int v) {
        int ones = 0;
        for (int i = 0; i < 8; i++) {
            ones += v >> i & 1;
        }
        return (v >= 128 ? 128 : 0) + (v == 0 ? 64 : 0) + (ones % 2 == 0 ? 4 : 0);
    }

    static int signedFlags(int result) {
        return (result < 0 ? 32 : 0) + (result < -128 || result > 127 ? 2 : 0);
    }

    private static int sumFlags(int a, int b, int carry) {
        int whole = a + b + carry;
        return flagsOf(whole % 256) + signedFlags(signed(a) + signed(b) + carry)
            + (a % 16 + b % 16 + carry >= 16 ? 16 : 0) + (whole >= 256 ? 1 : 0);
    }

    private static int differenceFlags(int a, int b, int borrow) {
        int whole = a - b - borrow;
        return flagsOf(Math.floorMod(whole, 256)) + signedFlags(signed(a) - signed(b) - borrow)
            + (a % 16 - b % 16 - borrow >= 0 ? 16 : 0) + (whole < 0 ? 1 : 0);
    }

    private static int dueResult(int y, int a, int b, int c) {
        switch (y) {
            case 0:
                return (a + b) % 256;
            case 1:
                return (a + b + c) % 256;
            case 2:
                return Math.floorMod(a - b, 256);
            case 3:
                return Math.floorMod(a - b - c, 256);
            case 4:
                return a & b;
            case 5:
                return a ^ b;
            case 6:
                return a | b;
            default:
                return a;
        }
    }

    private static int dueFlags(int y, int a, int b, int c) {
        switch (y) {
            case 0:
                return sumFlags(a, b, 0);
            case 1:
                return sumFlags(a, b, c);
            case 3:
                return differenceFlags(a, b, c);
            case 4: case 5: case 6:
                int result = dueResult(y, a, b, c);
                return flagsOf(result) + (result >= 128 ? 32 : 0) + (y == 4 ? 16 : 0);
            default:
                return differenceFlags(a, b, 0);
        }
    }

    private static void operation(int y, int a, int b, int c) {
        Board board = fresh().at(0, 192 + 8 * y + 6, b).having(Board.PC, 0).having(Board.A, a);
        // All other flags are 1 before, or all are 0: an operation must leave none of them as it was.
        board.having(Board.FLAGS, (a % 3 == 0 ? 246 : 0) + c).after(1);
        String what = "operation " + y + " of " + a + " and " + b + " with C " + c;
        Check.equal(what, board.is(Board.A), dueResult(y, a, b, c));
        Check.equal("flags of " + what, board.is(Board.FLAGS), dueFlags(y, a, b, c));
    }

    private static void operands() {
        for (int y = 0; y < 8; y++) {
            for (int r = 0; r < 8; r++) {
                Board board = Board.with(128 + 8 * y + r).at(0x155, 0x39).having(Board.FLAGS, 1);
                int[] values = {0x81, 0x92, 0xA3, 0xB4, 0x01, 0x55, 0x39, 0xC6};
                for (int i = 0; i < 8; i++) {
                    if (i != 6) {
                        board.having(i, values[i]);
                    }
                }
                board.after(1);
                Check.equal("operation " + y + " with register " + r, board.is(Board.A), dueResult(y, 0xC6, values[r], 1));
                Check.equal("its flags", board.is(Board.FLAGS), dueFlags(y, 0xC6, values[r], 1));
            }
        }
    }

    private static void increments() {
        for (int r = 0; r < 8; r++) {
            for (int v = 0; v < 256; v++) {
                increment(r, v, v / 2 % 2, 1);
                increment(r, v, v / 2 % 2, -1);
                increment(r, v, 1 - v / 2 % 2, -1);
            }
        }
    }

    private static void increment(int r, int v, int c, int by) {
        Board board = Board.with(8 * r + (by > 0 ? 4 : 5)).having(Board.H, 2).having(Board.FLAGS, (v % 3 == 0 ? 246 : 0) + c);
        if (r == 6) {
            board.at(0x200, v);
        } else {
            board.having(r, v);
        }
        board.after(1);
        int due = by > 0 ? sumFlags(v, 1, 0) : differenceFlags(v, 1, 0);
        String what = "register " + r + " of " + v + " by " + by;
        Check.equal(what, r == 6 ? board.kit.peek(0x200) : board.is(r), Math.floorMod(v + by, 256));
        Check.equal("flags of " + what, board.is(Board.FLAGS), due - due % 2 + c);
    }
}
