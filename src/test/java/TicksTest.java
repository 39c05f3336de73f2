/** Promise 4: the ticks of every instruction, and where PC is behind it. */
final class TicksTest {
    // By first byte, 16 in a row; of those with a condition, when it is not met.
    private static final int[] TICKS_NOT_TAKEN = {
        4, 10, 7, 4, 4, 4, 7, 4, 4, 4, 7, 4, 4, 4, 7, 4,
        4, 10, 7, 4, 4, 4, 7, 4, 4, 4, 7, 4, 4, 4, 7, 4,
        4, 10, 16, 4, 4, 4, 7, 4, 4, 4, 16, 4, 4, 4, 7, 4,
        4, 10, 13, 4, 10, 10, 10, 4, 4, 4, 13, 4, 4, 4, 7, 4,
        4, 4, 4, 4, 4, 4, 7, 4, 4, 4, 4, 4, 4, 4, 7, 4,
        4, 4, 4, 4, 4, 4, 7, 4, 4, 4, 4, 4, 4, 4, 7, 4,
        4, 4, 4, 4, 4, 4, 7, 4, 4, 4, 4, 4, 4, 4, 7, 4,
        7, 7, 7, 7, 7, 7, 4, 7, 4, 4, 4, 4, 4, 4, 7, 4,
        4, 4, 4, 4, 4, 4, 7, 4, 4, 4, 4, 4, 4, 4, 7, 4,
        4, 4, 4, 4, 4, 4, 7, 4, 4, 4, 4, 4, 4, 4, 7, 4,
        4, 4, 4, 4, 4, 4, 7, 4, 4, 4, 4, 4, 4, 4, 7, 4,
        4, 4, 4, 4, 4, 4, 7, 4, 4, 4, 4, 4, 4, 4, 7, 4,
        4, 10, 10, 10, 10, 10, 7, 10, 4, 10, 10, 4, 10, 16, 7, 10,
        4, 10, 10, 10, 10, 10, 7, 10, 4, 4, 10, 10, 10, 10, 7, 10,
        4, 10, 10, 16, 10, 10, 7, 10, 4, 4, 10, 4, 10, 4, 7, 10,
        4, 10, 10, 4, 10, 10, 7, 10, 4, 4, 10, 4, 10, 10, 7, 10,
    };

    // Flags that do not meet the condition of the instruction, and those that do.
    private static final int[] NOT_MET = {64, 0, 1, 0, 4, 0, 128, 0};
    private static final int[] MET = {0, 64, 0, 1, 0, 4, 0, 128};

    public static void main(String[] args) {
        for (int first = 0; first < 256; first++) {
            notTaken(first);
            if (hasCondition(first)) {
                taken(first);
            }
        }
        othersDoNothing();
        pcGoesRound();
        Check.end();
    }

    private static boolean hasCondition(int first) {
        int z = first % 8;
        return first >= 192 && (z == 0 || z == 2 || z == 4) || first == 0xCB || first == 0xDD || first == 0xFD;
    }

    private static Board before(int first) {
        return Board.with().at(99, Board.ON, first, 0x23, 0x01).at(512, 0x67, 0x02).having(Board.PC, 99).after(1)
            .having(Board.H, 1).having(Board.L, 0x80);
    }

    private static int flagsFor(int first, boolean met) {
        switch (first) {
            case 0xCB:
                return met ? 2 : 0;
            case 0xDD:
                return met ? 0 : 32;
            case 0xFD:
                return met ? 32 : 0;
            default:
                return met ? MET[first / 8 % 8] : NOT_MET[first / 8 % 8];
        }
    }

    private static void notTaken(int first) {
        Board board = before(first).having(Board.FLAGS, hasCondition(first) ? flagsFor(first, false) : 0);
        Check.equal("ticks of " + first, board.kit.step(), TICKS_NOT_TAKEN[first]);
        Check.equal("PC behind " + first, board.is(Board.PC), placeBehind(first));
        int state = first == Board.OFF ? 0 : first == Board.HALT ? 3 : 1;
        Check.equal("state behind " + first, board.is(Board.STATE), state);
    }

    private static int placeBehind(int first) {
        int z = first % 8;
        if (first == 0xC3 || first == 0xCD) {
            return 0x123;
        }
        if (first == 0xC9) {
            return 0x267;
        }
        if (first == 0xE9) {
            return 0x180;
        }
        if (first >= 192 && z == 7) {
            return first - 199;
        }
        return 100 + length(first);
    }

    private static int length(int first) {
        int z = first % 8;
        int y = first / 8 % 8;
        if (first < 64) {
            return z == 1 && y % 2 == 0 || z == 2 && y >= 4 ? 3 : z == 6 ? 2 : 1;
        }
        if (first < 192) {
            return 1;
        }
        if (z == 2 || z == 4 || first == 0xDD || first == 0xFD) {
            return 3;
        }
        return z == 6 || first == 0xD3 || first == 0xDB ? 2 : 1;
    }

    private static void taken(int first) {
        Board board = before(first).having(Board.FLAGS, flagsFor(first, true));
        int z = first % 8;
        boolean returns = z == 0;
        boolean calls = z == 4 || first == 0xCB;
        int target = returns ? 0x267 : first == 0xCB ? 64 : 0x123;
        int ticks = z == 4 ? 16 : 10;
        Check.equal("ticks of taken " + first, board.kit.step(), ticks);
        Check.equal("PC behind taken " + first, board.is(Board.PC), target);
        Check.equal("SP behind taken " + first, board.is(Board.SP), returns ? 514 : calls ? 510 : 512);
        if (calls) {
            Check.equal("pushed by " + first, board.kit.peek(510), 100 + length(first));
            Check.equal("pushed high by " + first, board.kit.peek(511), 0);
        }
    }

    private static void othersDoNothing() {
        int[] others = {0x00, 0x08, 0x10, 0x18, 0x28, 0x38, 0xD9, 0xED};
        for (int first : others) {
            Board board = before(first);
            for (int which = 0; which < 8; which++) {
                board.having(which, 0x57);
            }
            Check.equal("ticks of other " + first, board.kit.step(), 4);
            for (int which = 0; which < 8; which++) {
                Check.equal("about(" + which + ") behind other " + first, board.is(which), 0x57);
            }
            Check.equal("SP behind other", board.is(Board.SP), 512);
            Check.equal("PC behind other", board.is(Board.PC), 101);
            Check.equal("state behind other", board.is(Board.STATE), 1);
        }
    }

    private static void pcGoesRound() {
        Board board = Board.with().at(0xFFFF, 0x01).at(0, 0x34, 0x12).having(Board.PC, 0xFFFF);
        Check.equal("ticks at the end", board.kit.step(), 10);
        Check.equal("BC over the end", board.pair(Board.B), 0x1234);
        Check.equal("PC over the end", board.is(Board.PC), 2);
        Board high = Board.with(0x3C).having(Board.PC, 0x8400).after(1);
        Check.equal("the low ten bits count", high.is(Board.A), 1);
        Check.equal("PC keeps 16 bits", high.is(Board.PC), 0x8401);
    }
}
