/** Promise 4: the scan of the keys, their queue, and the keyboard unit's ports. */
final class ScanTest {
    private static final int CLEAR = 192;

    public static void main(String[] args) {
        everySixtyFourTicks();
        scanInsideAnInstruction();
        keysAreCountedOnce();
        bouncesAreNotCounted();
        countedAgainWhenItWasUp();
        upBetweenScansIsNotSeen();
        queueInOrder();
        queueGoesRound();
        overrun();
        underrun();
        clearWaitsAnew();
        clearBetweenScans();
        clearLeavesKeysThatAreUp();
        otherCommandsLeaveTheQueue();
        Check.end();
    }

    private static Board pressed(int... keys) {
        Board board = Board.with();
        for (int k : keys) {
            board.kit.key(k, true);
        }
        return board;
    }

    private static void everySixtyFourTicks() {
        Board board = pressed(7).wait(124);
        Check.equal("before the second scan", board.is(Board.STATUS), 0);
        Check.equal("at the second scan", board.wait(4).is(Board.STATUS), 1);
        Check.equal("the key", board.in(8), 7);
        Board late = Board.with().wait(64);
        late.kit.key(7, true);
        Check.equal("one scan", late.wait(64).is(Board.STATUS), 0);
        Check.equal("before the next", late.wait(60).is(Board.STATUS), 0);
        Check.equal("two scans", late.wait(4).is(Board.STATUS), 1);
    }

    private static void scanInsideAnInstruction() {
        // 120 ticks, then one of 10: the scan at 128 is in it, and the next is at 192.
        Board board = pressed(7).wait(120);
        board.in(77);
        Check.equal("counted in the instruction", board.is(Board.STATUS), 1);
        Check.equal("taken", board.in(8), 7);
        board.kit.key(3, true);
        board.wait(48);
        board.in(9);
        Check.equal("first scan at 192", board.is(Board.STATUS), 0);
        board.wait(56);
        Check.equal("at 254", board.is(Board.STATUS), 0);
        Check.equal("at 258", board.wait(4).is(Board.STATUS), 1);
    }

    private static void keysAreCountedOnce() {
        Board board = pressed(7).wait(640);
        Check.equal("counted once", board.is(Board.STATUS), 1);
        Check.equal("taken", board.in(8), 7);
        Check.equal("not again", board.wait(256).is(Board.STATUS), 0);
    }

    private static void bouncesAreNotCounted() {
        Board board = Board.with();
        for (int i = 0; i < 10; i++) {
            board.kit.key(7, i % 2 == 0);
            board.kit.steps(16);
        }
        Check.equal("never down at two scans", board.is(Board.STATUS), 0);
    }

    private static void countedAgainWhenItWasUp() {
        Board board = pressed(7).wait(128);
        board.kit.key(7, false);
        board.wait(64);
        board.kit.key(7, true);
        Check.equal("one scan", board.wait(64).is(Board.STATUS), 1);
        Check.equal("two scans", board.wait(64).is(Board.STATUS), 2);
    }

    private static void upBetweenScansIsNotSeen() {
        Board counted = pressed(7).wait(128);
        counted.kit.key(7, false);
        counted.wait(32);
        counted.kit.key(7, true);
        Check.equal("not counted again", counted.wait(256).is(Board.STATUS), 1);
        Board waiting = pressed(7).wait(64);
        waiting.kit.key(7, false);
        waiting.wait(32);
        waiting.kit.key(7, true);
        Check.equal("down at both scans", waiting.wait(32).is(Board.STATUS), 1);
    }

    private static void queueInOrder() {
        Board board = pressed(12, 3, 15, 0).wait(64);
        board.kit.key(1, true);
        board.wait(128);
        Check.equal("status", board.is(Board.STATUS), 5);
        Check.equal("port 9", board.in(9), 5);
        int[] due = {0, 3, 12, 15, 1};
        for (int i = 0; i < due.length; i++) {
            Check.equal("key " + i, board.in(8), due[i]);
            Check.equal("status then", board.is(Board.STATUS), 4 - i);
        }
    }

    private static void queueGoesRound() {
        Board board = Board.with();
        for (int i = 0; i < 20; i++) {
            KeyboardKit kit = board.kit;
            int k = i * 7 % 16;
            kit.key(k, true);
            kit.key((k + 1) % 16, true);
            kit.steps(32);
            kit.key(k, false);
            kit.key((k + 1) % 16, false);
            int first = Math.min(k, (k + 1) % 16);
            Check.equal("first of two", board.in(8), first);
            Check.equal("second of two", board.in(8), k + (k + 1) % 16 - first);
            board.wait(108);
            Check.equal("all are taken", board.is(Board.STATUS), 0);
        }
    }

    private static void overrun() {
        Board board = pressed(0, 1, 2, 3, 4, 5, 6, 7).wait(128);
        Check.equal("full", board.is(Board.STATUS), 8);
        Check.equal("full at the port", board.in(9), 8);
        board.kit.key(8, true);
        board.wait(192);
        Check.equal("OVERRUN", board.is(Board.STATUS), 8 + 32);
        for (int k = 0; k < 8; k++) {
            Check.equal("key " + k, board.in(8), k);
        }
        Check.equal("OVERRUN stays", board.wait(192).is(Board.STATUS), 32);
        board.kit.key(8, false);
        board.wait(64);
        board.kit.key(8, true);
        Check.equal("the lost key can come again", board.wait(128).is(Board.STATUS), 32 + 1);
    }

    private static void underrun() {
        Board board = Board.with().having(Board.A, 99);
        Check.equal("no key", board.in(8), 0);
        Check.equal("UNDERRUN", board.in(9), 16);
        Check.equal("UNDERRUN stays", board.in(9), 16);
        board.out(9, CLEAR + 31);
        Check.equal("UNDERRUN is off", board.in(9), 0);
        Board both = pressed(0, 1, 2, 3, 4, 5, 6, 7, 8).wait(128);
        for (int i = 0; i < 9; i++) {
            both.in(8);
        }
        Check.equal("both", both.is(Board.STATUS), 48);
        Check.equal("both off", both.out(9, CLEAR).is(Board.STATUS), 0);
    }

    private static void clearWaitsAnew() {
        for (int k = 0; k < 16; k++) {
            Board one = pressed(k).wait(128).out(9, CLEAR).wait(112);
            Check.equal("key " + k + " waits anew", one.is(Board.STATUS), 1);
            Check.equal("key " + k, one.in(8), k);
        }
        Board board = pressed(2, 4).wait(128);
        Check.equal("counted", board.is(Board.STATUS), 2);
        board.out(9, CLEAR);
        Check.equal("empty", board.is(Board.STATUS), 0);
        // 145 ticks went by; scans follow at 192 and 256.
        Check.equal("at 253", board.wait(108).is(Board.STATUS), 0);
        Check.equal("counted again", board.wait(4).is(Board.STATUS), 2);
        Check.equal("the first", board.in(8), 2);
        Check.equal("the second", board.in(8), 4);
        Check.equal("and once only", board.wait(256).is(Board.STATUS), 0);
    }

    private static void clearBetweenScans() {
        Board board = pressed(2).wait(64).out(9, CLEAR).wait(60);
        Check.equal("the scan before doesn't count", board.is(Board.STATUS), 0);
        Check.equal("the next two do", board.wait(52).is(Board.STATUS), 1);
    }

    private static void clearLeavesKeysThatAreUp() {
        Board board = pressed(2).wait(128);
        board.kit.key(2, false);
        board.out(9, CLEAR);
        board.kit.key(2, true);
        Check.equal("a key that was up then was counted", board.wait(256).is(Board.STATUS), 0);
    }

    private static void otherCommandsLeaveTheQueue() {
        for (int kind = 0; kind < 8; kind++) {
            if (kind != 6) {
                Board board = pressed(2).wait(128).out(9, 32 * kind + 1);
                Check.equal("kind " + kind, board.is(Board.STATUS), 1);
                Check.equal("kind " + kind + ", later", board.wait(192).is(Board.STATUS), 1);
            }
        }
        for (int v = 0; v < 256; v++) {
            Board board = pressed(2).wait(128).out(8, v).out(8, 99);
            Check.equal("writing DATA leaves the queue", board.is(Board.STATUS), 1);
            Check.equal("DATA " + v, board.kit.shown(0), v);
            Check.equal("DATA " + v + " is no command", board.kit.shown(1), 99);
        }
    }
}
