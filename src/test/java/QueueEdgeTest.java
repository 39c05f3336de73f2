/** Terms: the tick of a scan, keys that are counted, and a queue that is empty, almost full, full and more than full. */
final class QueueEdgeTest {
    private static final int CLEAR = 192;
    private static final int FULL = 8;
    private static final int UNDERRUN = 16;
    private static final int OVERRUN = 32;

    public static void main(String[] args) {
        firstScanAtTick64();
        secondScanAtTick128();
        scansGoOn();
        countedAtTheSecondScan();
        everyKeyIsScanned();
        countedAgainBehindOneScan();
        statusOfEveryNumber();
        firstEightAreKept();
        oneMoreThanSeven();
        roomForOneAgain();
        lostKeyIsCounted();
        takenFromEmpty();
        keyZeroIsNoUnderrun();
        underrunStays();
        overrunStays();
        scanInTheTicksOfReading();
        wantedUntilEmpty();
        clearOfEveryNumber();
        clearAroundAScan();
        statusIsToldTwice();
        Check.end();
    }

    private static Board pressed(int... keys) {
        Board board = Board.with();
        return press(board, true, keys);
    }

    private static Board press(Board board, boolean down, int... keys) {
        for (int k : keys) {
            board.kit.key(k, down);
        }
        return board;
    }

    private static Board pressedFirst(int n) {
        Board board = Board.with();
        for (int k = 0; k < n; k++) {
            board.kit.key(k, true);
        }
        return board;
    }

    /** Lets 7 ticks go by so often: a byte comes to E. */
    private static Board sevens(Board board, int times) {
        for (int i = 0; i < times; i++) {
            board.at(920 + 2 * i, 0x1E, 0);
        }
        return board.having(Board.PC, 920).after(times);
    }

    /** A key that is up for the four ticks behind some, and down again then, is seen to be down if a scan was before. */
    private static int statusWhenUpBehind(Board board) {
        press(board, false, 5).wait(4);
        return press(board, true, 5).wait(60).is(Board.STATUS);
    }

    private static void firstScanAtTick64() {
        Check.equal("up from tick 63 to 67", statusWhenUpBehind(sevens(pressed(5), 9)), 0);
        Check.equal("up from tick 64 to 68", statusWhenUpBehind(pressed(5).wait(64)), 1);
        // 4 * 13 + 13 ticks: the last is an instruction of 13 that has the scan in it.
        Board board = pressed(5).wait(52).at(930, 0x32, 0, 2).having(Board.PC, 930).after(1);
        Check.equal("up from tick 65 to 69", statusWhenUpBehind(board), 1);
    }

    private static void secondScanAtTick128() {
        Board before = sevens(pressed(5).wait(64), 9);
        Check.equal("tick 127", before.is(Board.STATUS), 0);
        Check.equal("behind it", before.wait(4).is(Board.STATUS), 1);
        Check.equal("tick 128", pressed(5).wait(128).is(Board.STATUS), 1);
        Board late = pressed(5).wait(60);
        late.at(930, 0x32, 0, 2).having(Board.PC, 930).after(1);
        Check.equal("tick 73", late.is(Board.STATUS), 0);
        Check.equal("tick 125", late.wait(52).is(Board.STATUS), 0);
        Check.equal("tick 129", late.wait(4).is(Board.STATUS), 1);
    }

    /** Scans come every 64 ticks from the beginning, however long instructions are. */
    private static void scansGoOn() {
        Board board = Board.with();
        for (int i = 0; i < 8; i++) {
            board.kit.key(i, true);
            // 63 + 64 ticks: one less than two scans.
            sevens(board, 9).wait(64);
            Check.equal("before scan " + (2 * i + 2), board.is(Board.STATUS), i);
            board.wait(4);
            Check.equal("behind it", board.is(Board.STATUS) % 8, (i + 1) % 8);
            // 131 ticks went by in this turn: with 61 more the next one begins at a scan again.
            sevens(board, 3).wait(40);
        }
        Check.equal("eight keys", board.is(Board.STATUS), FULL);
    }

    private static void countedAtTheSecondScan() {
        Board one = pressed(5).wait(64);
        Check.equal("one scan", one.is(Board.STATUS), 0);
        Check.equal("up at the next", press(one, false, 5).wait(256).is(Board.STATUS), 0);
        Board two = pressed(5).wait(128);
        Check.equal("two scans", two.is(Board.STATUS), 1);
        Check.equal("three scans", two.wait(64).is(Board.STATUS), 1);
        Check.equal("thirteen scans", two.wait(640).is(Board.STATUS), 1);
        Board bouncing = pressed(5).wait(64);
        press(bouncing, false, 5).wait(64);
        press(bouncing, true, 5).wait(64);
        Check.equal("down, up, down", bouncing.is(Board.STATUS), 0);
        Check.equal("and down", bouncing.wait(64).is(Board.STATUS), 1);
    }

    private static void everyKeyIsScanned() {
        for (int k = 0; k < 16; k++) {
            Board board = pressed(k).wait(128);
            Check.equal("one key", board.is(Board.STATUS), 1);
            Check.equal("key " + k, board.in(8), k);
            Check.equal("no other", board.is(Board.STATUS), 0);
        }
    }

    private static void countedAgainBehindOneScan() {
        // Up behind the scan at 128, down again before and behind the scan at 192.
        Board before = press(pressed(5).wait(128), false, 5).wait(60);
        Check.equal("up between scans", press(before, true, 5).wait(260).is(Board.STATUS), 1);
        Board behind = press(pressed(5).wait(128), false, 5).wait(64);
        Check.equal("up at one scan", press(behind, true, 5).wait(124).is(Board.STATUS), 1);
        Check.equal("and down at two", behind.wait(4).is(Board.STATUS), 2);
    }

    private static void statusOfEveryNumber() {
        int[] due = {0, 1, 2, 3, 4, 5, 6, 7, FULL, FULL + OVERRUN, FULL + OVERRUN};
        for (int n = 0; n <= 10; n++) {
            Board board = pressedFirst(n).wait(128);
            Check.equal(n + " keys", board.is(Board.STATUS), due[n]);
            Check.equal(n + " keys at the port", board.in(9), due[n]);
        }
        Check.equal("16 keys", pressedFirst(16).wait(128).is(Board.STATUS), FULL + OVERRUN);
    }

    private static void firstEightAreKept() {
        Board board = pressed(15, 14, 13, 12, 11, 10, 9, 4, 2).wait(128);
        int[] due = {2, 4, 9, 10, 11, 12, 13, 14, 0};
        for (int i = 0; i < 9; i++) {
            Check.equal("key " + i, board.in(8), due[i]);
        }
        Check.equal("then it is empty", board.is(Board.STATUS), OVERRUN + UNDERRUN);
    }

    private static void oneMoreThanSeven() {
        Board board = pressedFirst(7).wait(128);
        Check.equal("seven", board.is(Board.STATUS), 7);
        Check.equal("eight", press(board, true, 12).wait(128).is(Board.STATUS), FULL);
        Check.equal("nine", press(board, true, 13).wait(128).is(Board.STATUS), FULL + OVERRUN);
        Board two = press(pressedFirst(7).wait(128), true, 12, 13).wait(128);
        Check.equal("seven and two", two.is(Board.STATUS), FULL + OVERRUN);
    }

    private static void roomForOneAgain() {
        Board board = pressedFirst(8).wait(128);
        Check.equal("the first", board.in(8), 0);
        Check.equal("seven are left", board.is(Board.STATUS), 7);
        Check.equal("one more", press(board, true, 12).wait(128).is(Board.STATUS), FULL);
        for (int k = 1; k < 8; k++) {
            Check.equal("key " + k, board.in(8), k);
        }
        Check.equal("the last", board.in(8), 12);
        Check.equal("empty", board.is(Board.STATUS), 0);
    }

    private static void lostKeyIsCounted() {
        Board board = pressedFirst(9).wait(128);
        board.in(8);
        Check.equal("it doesn't come later", board.wait(256).is(Board.STATUS), 7 + OVERRUN);
        press(board, false, 8).wait(64);
        Check.equal("it comes when it was up", press(board, true, 8).wait(128).is(Board.STATUS), FULL + OVERRUN);
    }

    private static void takenFromEmpty() {
        Board board = pressed(9).wait(128);
        Check.equal("the only key", board.in(8), 9);
        Check.equal("no UNDERRUN", board.is(Board.STATUS), 0);
        Check.equal("one too many", board.in(8), 0);
        Check.equal("UNDERRUN", board.is(Board.STATUS), UNDERRUN);
        Check.equal("two too many", board.in(8), 0);
        Check.equal("UNDERRUN still", board.in(9), UNDERRUN);
    }

    private static void keyZeroIsNoUnderrun() {
        Board board = pressed(0).wait(128);
        Check.equal("key 0", board.in(8), 0);
        Check.equal("status", board.is(Board.STATUS), 0);
    }

    private static void underrunStays() {
        Board board = pressed(9);
        board.in(8);
        Check.equal("a key that comes then", board.wait(128).is(Board.STATUS), UNDERRUN + 1);
        Check.equal("is taken", board.in(8), 9);
        Check.equal("UNDERRUN stays", board.is(Board.STATUS), UNDERRUN);
        Check.equal("UNDERRUN is off", board.out(9, CLEAR).is(Board.STATUS), 0);
    }

    private static void overrunStays() {
        Board board = pressedFirst(9).wait(128);
        for (int left = 7; left >= 0; left--) {
            board.in(8);
            Check.equal("OVERRUN stays with " + left, board.is(Board.STATUS), OVERRUN + left);
        }
        Check.equal("OVERRUN is off", board.out(9, CLEAR).is(Board.STATUS), 0);
    }

    /** The ticks of an instruction go by behind it: a key that comes in them comes too late for it. */
    private static void scanInTheTicksOfReading() {
        Board empty = pressed(9).wait(120);
        Check.equal("too late", empty.in(8), 0);
        Check.equal("UNDERRUN, and the key", empty.is(Board.STATUS), UNDERRUN + 1);
        Board status = pressed(9).wait(120);
        Check.equal("too late for the status", status.in(9), 0);
        Check.equal("the key", status.is(Board.STATUS), 1);
        // Full, one taken, and the ninth comes in the ticks of that.
        Board full = press(pressedFirst(8).wait(128), true, 12).wait(120);
        Check.equal("still full", full.is(Board.STATUS), FULL);
        Check.equal("one is taken", full.in(8), 0);
        Check.equal("there was room", full.is(Board.STATUS), FULL);
        Board cleared = pressed(9).wait(112).out(9, CLEAR);
        Check.equal("the scan behind a clear", cleared.is(Board.STATUS), 0);
        Check.equal("is the first", cleared.wait(64).is(Board.STATUS), 1);
    }

    private static void wantedUntilEmpty() {
        for (int n = 0; n <= 9; n++) {
            Board board = pressedFirst(n).wait(128).at(950, Board.READ_MASK).having(Board.PC, 950).after(1);
            Check.equal("5.5 with " + n + " keys", board.is(Board.A), 7 + (n > 0 ? 16 : 0));
        }
        Board board = pressed(9).wait(128);
        board.in(8);
        Check.equal("5.5 behind the last", board.at(950, Board.READ_MASK).having(Board.PC, 950).after(1).is(Board.A), 7);
    }

    private static void clearOfEveryNumber() {
        for (int n = 0; n <= 9; n++) {
            Board board = pressedFirst(n).wait(128).out(9, CLEAR);
            Check.equal("cleared", board.is(Board.STATUS), 0);
            Check.equal("5.5 isn't wanted", board.at(950, Board.READ_MASK).having(Board.PC, 950).after(1).is(Board.A), 7);
            Check.equal("nothing to take", board.in(8), 0);
            Check.equal("UNDERRUN", board.is(Board.STATUS), UNDERRUN);
        }
        Check.equal("193 clears too", pressed(9).wait(128).out(9, CLEAR + 1).is(Board.STATUS), 0);
        Check.equal("223 clears too", pressed(9).wait(128).out(9, 223).is(Board.STATUS), 0);
        Check.equal("191 doesn't", pressed(9).wait(128).out(9, 191).is(Board.STATUS), 1);
        Check.equal("224 doesn't", pressed(9).wait(128).out(9, 224).is(Board.STATUS), 1);
        // A queue that went round: the keys behind a clear come in their order.
        Board round = press(pressedFirst(6).wait(128).out(9, CLEAR), false, 0, 1, 2, 3, 4, 5);
        press(round, true, 7, 8, 9, 10, 11).wait(128);
        for (int k = 7; k <= 11; k++) {
            Check.equal("key " + k + " behind a clear", round.in(8), k);
        }
    }

    /** A clear just before and just behind a scan: two scans later the key is counted. */
    private static void clearAroundAScan() {
        // The clear's 10 ticks go by behind it: at tick 53 + 7 it is before the scan at 64.
        Board before = sevens(pressed(5).wait(32), 3).out(9, CLEAR);
        Check.equal("tick 70", before.is(Board.STATUS), 0);
        Check.equal("tick 126", before.wait(56).is(Board.STATUS), 0);
        Check.equal("tick 130", before.wait(4).is(Board.STATUS), 1);
        Board behind = pressed(5).wait(60).out(9, CLEAR);
        Check.equal("tick 77", behind.is(Board.STATUS), 0);
        Check.equal("tick 189", behind.wait(112).is(Board.STATUS), 0);
        Check.equal("tick 193", behind.wait(4).is(Board.STATUS), 1);
    }

    private static void statusIsToldTwice() {
        Board board = pressedFirst(9).wait(128);
        Check.equal("first", board.in(9), FULL + OVERRUN);
        Check.equal("again", board.in(9), FULL + OVERRUN);
        Check.equal("asked", board.is(Board.STATUS), FULL + OVERRUN);
        Check.equal("asked again", board.is(Board.STATUS), FULL + OVERRUN);
    }
}
