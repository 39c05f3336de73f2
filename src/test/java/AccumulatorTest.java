/** Promise 4: A turned, made decimal and turned over, and the C flag. */
final class AccumulatorTest {
    public static void main(String[] args) {
        for (int a = 0; a < 256; a++) {
            for (int flags = 0; flags < 256; flags += 17) {
                turns(a, flags & 247);
            }
            for (int h = 0; h < 2; h++) {
                for (int c = 0; c < 2; c++) {
                    decimal(a, h, c);
                }
            }
        }
        decimalSums();
        Check.end();
    }

    private static void one(int instruction, int a, int flags, int dueA, int dueC) {
        Board board = Board.with(instruction).having(Board.A, a).having(Board.FLAGS, flags).after(1);
        String what = "instruction " + instruction + " of A " + a + ", flags " + flags;
        Check.equal(what, board.is(Board.A), dueA);
        Check.equal("flags of " + what, board.is(Board.FLAGS), flags - flags % 2 + dueC);
    }

    private static void turns(int a, int flags) {
        int c = flags % 2;
        one(0x07, a, flags, a * 2 % 256 + a / 128, a / 128);
        one(0x0F, a, flags, a / 2 + a % 2 * 128, a % 2);
        one(0x17, a, flags, a * 2 % 256 + c, a / 128);
        one(0x1F, a, flags, a / 2 + c * 128, a % 2);
        one(0x2F, a, flags, 255 - a, c);
        one(0x37, a, flags, a, 1);
        one(0x3F, a, flags, a, 1 - c);
    }

    private static void decimal(int a, int h, int c) {
        int come = (a % 16 > 9 || h == 1 ? 6 : 0) + (a > 153 || c == 1 ? 96 : 0);
        int due = ArithmeticTest.flagsOf((a + come) % 256) + ArithmeticTest.signedFlags(ArithmeticTest.signed(a) + come)
            + (a % 16 + come % 16 > 15 ? 16 : 0) + (c == 1 || come >= 96 ? 1 : 0);
        for (int others = 0; others <= 230; others += 230) {
            Board board = Board.with(0x27).having(Board.A, a).having(Board.FLAGS, others + 16 * h + c).after(1);
            Check.equal("decimal of " + a + ", H " + h + ", C " + c, board.is(Board.A), (a + come) % 256);
            Check.equal("flags of decimal of " + a + ", H " + h + ", C " + c, board.is(Board.FLAGS), due);
        }
    }

    /** A sum of two decimal numbers, made decimal, is their decimal sum. */
    private static void decimalSums() {
        for (int a = 0; a < 100; a++) {
            for (int b = 0; b < 100; b++) {
                Board board = Board.with(0xC6, b / 10 * 16 + b % 10, 0x27).having(Board.A, a / 10 * 16 + a % 10).after(2);
                int low = (a + b) % 100;
                Check.equal("decimal " + a + " + " + b, board.is(Board.A), low / 10 * 16 + low % 10);
                Check.equal("C of decimal " + a + " + " + b, board.is(Board.FLAGS) % 2, (a + b) / 100);
            }
        }
    }
}
