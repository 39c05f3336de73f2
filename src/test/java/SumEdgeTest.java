/**
 * Terms: the flags of a sum and a difference, DECIMAL and turns, just below, at and just above each place where a flag
 * changes. All answers are written out, as S 128, Z 64, K 32, H 16, P 4, V 2, C 1.
 */
final class SumEdgeTest {
    private static final int SUM = 0;
    private static final int SUM_WITH_C = 1;
    private static final int DIFFERENCE = 2;
    private static final int DIFFERENCE_WITH_C = 3;
    private static final int COMPARE = 7;

    public static void main(String[] args) {
        sumAbove255();
        sumAbove255WithC();
        lowHalvesAbove15();
        sumOutsideSigned();
        differenceBelow0();
        differenceBelow0WithC();
        differenceOutsideSigned();
        compareLeavesA();
        bitwise();
        oneMore();
        oneLess();
        decimalLowHalf();
        decimalWhole();
        decimalSign();
        turns();
        overflowCall();
        Check.end();
    }

    /** One operation on a register and on n, with all flags but C as they must not stay. */
    private static void operation(int y, int a, int b, int c, int dueA, int dueFlags) {
        for (int others : new int[] {0, 246}) {
            Board byRegister = Board.with(128 + 8 * y).having(Board.B, b);
            byRegister.having(Board.A, a).having(Board.FLAGS, others + c).after(1);
            Board byByte = Board.with(192 + 8 * y + 6, b);
            byByte.having(Board.A, a).having(Board.FLAGS, others + c).after(1);
            String what = "operation " + y + " of " + a + " and " + b + ", C " + c;
            Check.equal(what, byRegister.is(Board.A), dueA);
            Check.equal("flags of " + what, byRegister.is(Board.FLAGS), dueFlags);
            Check.equal(what + ", by n", byByte.is(Board.A), dueA);
            Check.equal("flags of " + what + ", by n", byByte.is(Board.FLAGS), dueFlags);
        }
    }

    private static void sumAbove255() {
        operation(SUM, 200, 54, 0, 254, 128 + 32);
        operation(SUM, 200, 55, 0, 255, 128 + 32 + 4);
        operation(SUM, 200, 56, 0, 0, 64 + 16 + 4 + 1);
        operation(SUM, 200, 57, 0, 1, 16 + 1);
        operation(SUM, 255, 255, 0, 254, 128 + 32 + 16 + 1);
        operation(SUM, 0, 0, 0, 0, 64 + 4);
        // A sum without C doesn't look at it.
        operation(SUM, 200, 55, 1, 255, 128 + 32 + 4);
    }

    private static void sumAbove255WithC() {
        operation(SUM_WITH_C, 200, 54, 1, 255, 128 + 32 + 4);
        operation(SUM_WITH_C, 200, 55, 1, 0, 64 + 16 + 4 + 1);
        operation(SUM_WITH_C, 200, 55, 0, 255, 128 + 32 + 4);
        operation(SUM_WITH_C, 200, 56, 0, 0, 64 + 16 + 4 + 1);
        operation(SUM_WITH_C, 255, 255, 1, 255, 128 + 32 + 16 + 4 + 1);
        operation(SUM_WITH_C, 255, 0, 1, 0, 64 + 16 + 4 + 1);
        operation(SUM_WITH_C, 0, 255, 1, 0, 64 + 16 + 4 + 1);
    }

    private static void lowHalvesAbove15() {
        operation(SUM, 7, 7, 0, 14, 0);
        operation(SUM, 7, 8, 0, 15, 4);
        operation(SUM, 8, 8, 0, 16, 16);
        operation(SUM, 8, 9, 0, 17, 16 + 4);
        operation(SUM_WITH_C, 7, 7, 1, 15, 4);
        operation(SUM_WITH_C, 7, 8, 1, 16, 16);
        operation(SUM_WITH_C, 15, 15, 1, 31, 16);
        // The high halves come to nothing here.
        operation(SUM, 0x10, 0xF0, 0, 0, 64 + 4 + 1);
    }

    private static void sumOutsideSigned() {
        operation(SUM, 127, 0, 0, 127, 0);
        operation(SUM, 126, 1, 0, 127, 0);
        operation(SUM, 127, 1, 0, 128, 128 + 16 + 2);
        operation(SUM, 127, 127, 0, 254, 128 + 16 + 2);
        operation(SUM_WITH_C, 127, 0, 1, 128, 128 + 16 + 2);
        operation(SUM, 128, 0, 0, 128, 128 + 32);
        operation(SUM, 129, 255, 0, 128, 128 + 32 + 16 + 1);
        operation(SUM, 128, 255, 0, 127, 32 + 2 + 1);
        operation(SUM, 128, 128, 0, 0, 64 + 32 + 4 + 2 + 1);
        operation(SUM_WITH_C, 128, 255, 1, 128, 128 + 32 + 16 + 1);
        // Of two signs, V is never 1.
        operation(SUM, 127, 128, 0, 255, 128 + 32 + 4);
        operation(SUM, 255, 1, 0, 0, 64 + 16 + 4 + 1);
    }

    private static void differenceBelow0() {
        operation(DIFFERENCE, 5, 4, 0, 1, 16);
        operation(DIFFERENCE, 5, 5, 0, 0, 64 + 16 + 4);
        operation(DIFFERENCE, 5, 6, 0, 255, 128 + 32 + 4 + 1);
        operation(DIFFERENCE, 0, 0, 0, 0, 64 + 16 + 4);
        operation(DIFFERENCE, 0, 255, 0, 1, 1);
        operation(DIFFERENCE, 255, 255, 0, 0, 64 + 16 + 4);
        // A difference without C doesn't look at it.
        operation(DIFFERENCE, 5, 5, 1, 0, 64 + 16 + 4);
        // The low halves: 16 - 1 needs the high half, 17 - 1 does not.
        operation(DIFFERENCE, 16, 1, 0, 15, 4);
        operation(DIFFERENCE, 17, 1, 0, 16, 16);
    }

    private static void differenceBelow0WithC() {
        operation(DIFFERENCE_WITH_C, 5, 3, 1, 1, 16);
        operation(DIFFERENCE_WITH_C, 5, 4, 1, 0, 64 + 16 + 4);
        operation(DIFFERENCE_WITH_C, 5, 5, 1, 255, 128 + 32 + 4 + 1);
        operation(DIFFERENCE_WITH_C, 5, 5, 0, 0, 64 + 16 + 4);
        operation(DIFFERENCE_WITH_C, 5, 6, 0, 255, 128 + 32 + 4 + 1);
        operation(DIFFERENCE_WITH_C, 0, 255, 1, 0, 64 + 4 + 1);
        operation(DIFFERENCE_WITH_C, 255, 255, 1, 255, 128 + 32 + 4 + 1);
    }

    private static void differenceOutsideSigned() {
        operation(DIFFERENCE, 128, 0, 0, 128, 128 + 32 + 16);
        operation(DIFFERENCE, 129, 1, 0, 128, 128 + 32 + 16);
        operation(DIFFERENCE, 128, 1, 0, 127, 32 + 2);
        operation(DIFFERENCE_WITH_C, 128, 0, 1, 127, 32 + 2);
        operation(DIFFERENCE, 126, 255, 0, 127, 1);
        operation(DIFFERENCE, 127, 255, 0, 128, 128 + 16 + 2 + 1);
        operation(DIFFERENCE_WITH_C, 127, 255, 1, 127, 1);
        operation(DIFFERENCE, 0, 128, 0, 128, 128 + 16 + 2 + 1);
        operation(DIFFERENCE_WITH_C, 0, 128, 1, 127, 1);
    }

    private static void compareLeavesA() {
        operation(COMPARE, 5, 4, 0, 5, 16);
        operation(COMPARE, 5, 5, 0, 5, 64 + 16 + 4);
        operation(COMPARE, 5, 6, 0, 5, 128 + 32 + 4 + 1);
        operation(COMPARE, 5, 5, 1, 5, 64 + 16 + 4);
        operation(COMPARE, 128, 1, 0, 128, 32 + 2);
        operation(COMPARE, 0, 255, 1, 0, 1);
    }

    private static void bitwise() {
        operation(4, 255, 0, 1, 0, 64 + 16 + 4);
        operation(4, 255, 127, 1, 127, 16);
        operation(4, 255, 128, 1, 128, 128 + 32 + 16);
        operation(4, 255, 255, 1, 255, 128 + 32 + 16 + 4);
        operation(5, 255, 255, 1, 0, 64 + 4);
        operation(5, 255, 128, 1, 127, 0);
        operation(5, 255, 127, 1, 128, 128 + 32);
        operation(6, 0, 0, 1, 0, 64 + 4);
        operation(6, 126, 1, 1, 127, 0);
        operation(6, 128, 0, 1, 128, 128 + 32);
    }

    private static void count(int r, boolean up, int v, int due, int dueFlags) {
        for (int c = 0; c < 2; c++) {
            for (int others : new int[] {0, 246}) {
                Board board = Board.with(8 * r + (up ? 4 : 5)).having(Board.H, 2).having(Board.FLAGS, others + c);
                board = r == 6 ? board.at(0x200, v) : board.having(r, v);
                board.after(1);
                String what = "register " + r + " of " + v + (up ? ", 1 more" : ", 1 less");
                Check.equal(what, r == 6 ? board.kit.peek(0x200) : board.is(r), due);
                Check.equal("flags of " + what, board.is(Board.FLAGS), dueFlags + c);
            }
        }
    }

    private static void oneMore() {
        for (int r = 0; r < 8; r++) {
            count(r, true, 254, 255, 128 + 32 + 4);
            count(r, true, 255, 0, 64 + 16 + 4);
            count(r, true, 0, 1, 0);
            count(r, true, 14, 15, 4);
            count(r, true, 15, 16, 16);
            count(r, true, 126, 127, 0);
            count(r, true, 127, 128, 128 + 16 + 2);
            count(r, true, 128, 129, 128 + 32 + 4);
        }
    }

    private static void oneLess() {
        for (int r = 0; r < 8; r++) {
            count(r, false, 1, 0, 64 + 16 + 4);
            count(r, false, 0, 255, 128 + 32 + 4);
            count(r, false, 255, 254, 128 + 32 + 16);
            count(r, false, 17, 16, 16);
            count(r, false, 16, 15, 4);
            count(r, false, 129, 128, 128 + 32 + 16);
            count(r, false, 128, 127, 32 + 2);
            count(r, false, 127, 126, 16 + 4);
        }
    }

    private static void decimal(int a, int flags, int dueA, int dueFlags) {
        for (int others : new int[] {0, 230}) {
            Board board = Board.with(0x27).having(Board.A, a).having(Board.FLAGS, flags + others).after(1);
            Check.equal("DECIMAL of " + a + ", flags " + flags, board.is(Board.A), dueA);
            Check.equal("its flags", board.is(Board.FLAGS), dueFlags);
        }
    }

    private static void decimalLowHalf() {
        decimal(0x08, 0, 0x08, 0);
        decimal(0x09, 0, 0x09, 4);
        decimal(0x0A, 0, 0x10, 16);
        decimal(0x0B, 0, 0x11, 16 + 4);
        decimal(0x0F, 0, 0x15, 16);
        decimal(0x10, 0, 0x10, 0);
        // H is 1: 6 comes, whatever the low half is.
        decimal(0x00, 16, 0x06, 4);
        decimal(0x09, 16, 0x0F, 4);
        decimal(0x0A, 16, 0x10, 16);
    }

    private static void decimalWhole() {
        decimal(152, 0, 152, 128 + 32);
        decimal(153, 0, 153, 128 + 32 + 4);
        decimal(154, 0, 0, 64 + 16 + 4 + 1);
        decimal(155, 0, 1, 16 + 1);
        decimal(0xA0, 0, 0, 64 + 4 + 1);
        decimal(0xFF, 0, 0x65, 16 + 4 + 1);
        // A before the 6 came counts: 153 + 6 is above 153, and brings no 96.
        decimal(153, 16, 159, 128 + 32 + 4);
        // C is 1: 96 comes, and C stays, also when the sum is not above 255.
        decimal(0, 1, 96, 4 + 1);
        decimal(153, 1, 249, 128 + 32 + 4 + 1);
        decimal(159, 1, 5, 16 + 4 + 1);
        decimal(0, 16 + 1, 102, 4 + 1);
    }

    private static void decimalSign() {
        decimal(0x79, 0, 0x79, 0);
        decimal(0x7A, 0, 0x80, 128 + 16 + 2);
        decimal(0x1F, 1, 0x85, 128 + 16 + 2 + 1);
        decimal(0x19, 1, 0x79, 1);
    }

    private static void turned(int instruction, int a, int c, int dueA, int dueC) {
        for (int others : new int[] {0, 246}) {
            Board board = Board.with(instruction).having(Board.A, a).having(Board.FLAGS, others + c).after(1);
            Check.equal("A of " + instruction + " of " + a + ", C " + c, board.is(Board.A), dueA);
            Check.equal("flags of that", board.is(Board.FLAGS), others + dueC);
        }
    }

    /** Bit 7 and bit 0 go round, or through C. */
    private static void turns() {
        turned(0x07, 127, 1, 254, 0);
        turned(0x07, 128, 0, 1, 1);
        turned(0x0F, 254, 1, 127, 0);
        turned(0x0F, 1, 0, 128, 1);
        turned(0x17, 127, 1, 255, 0);
        turned(0x17, 128, 0, 0, 1);
        turned(0x17, 128, 1, 1, 1);
        turned(0x1F, 254, 1, 255, 0);
        turned(0x1F, 1, 0, 0, 1);
        turned(0x1F, 1, 1, 128, 1);
        turned(0x2F, 0, 0, 255, 0);
        turned(0x2F, 255, 1, 0, 1);
        turned(0x37, 5, 0, 5, 1);
        turned(0x37, 5, 1, 5, 1);
        turned(0x3F, 5, 0, 5, 1);
        turned(0x3F, 5, 1, 5, 0);
    }

    /** 127 + 1 is the first sum that makes V 1. */
    private static void overflowCall() {
        Check.equal("127 + 0", Board.with(0xC6, 0, 0xCB).having(Board.A, 127).after(2).is(Board.PC), 3);
        Check.equal("127 + 1", Board.with(0xC6, 1, 0xCB).having(Board.A, 127).after(2).is(Board.PC), 64);
    }
}
