/** Promise 4: the timer and its ports. */
final class TimerTest {
    private static final int START = 192;
    private static final int STOP = 64;
    private static final int STOP_AT_END = 128;

    public static void main(String[] args) {
        lengths();
        highByteAlone();
        endsOnce();
        goesOn();
        stops();
        stopsAtTheEnd();
        stopAtTheEndIsForgotten();
        loadsOnlyAtTheStart();
        restarts();
        otherBitsDoNothing();
        countsEveryTick();
        otherPorts();
        Check.end();
    }

    /** What is left behind the start's own ten ticks tells the length. */
    private static void lengths() {
        int[] lengths = {11, 12, 255, 256, 257, 1000, 16383};
        for (int length : lengths) {
            Board board = Board.with().out(4, length % 256).out(5, length / 256).out(0, START);
            Check.equal("left of " + length, board.is(Board.TIMER), length - 10);
            board = Board.with().out(5, length / 256 + 128).out(4, length % 256).out(0, START);
            Check.equal("left of " + length + " with bit 15", board.is(Board.TIMER), length - 10);
        }
        for (int length = 0; length <= 10; length++) {
            Board board = Board.with().out(4, length).out(5, 64).out(0, START);
            int counted = Math.max(2, length);
            Check.equal("left of " + length + ", going on", board.is(Board.TIMER), counted - 10 % counted);
            board.wait(4);
            Check.equal("left of " + length + " later", board.is(Board.TIMER), counted - 14 % counted);
        }
    }

    private static void highByteAlone() {
        Check.equal("low byte 0 in the beginning", Board.with().out(5, 1).out(0, START).is(Board.TIMER), 246);
        Check.equal("low byte 1", Board.with().out(4, 1).out(5, 1).out(0, START).is(Board.TIMER), 247);
    }

    private static void endsOnce() {
        Board board = Board.with().out(4, 18).out(0, START);
        Check.equal("left", board.is(Board.TIMER), 8);
        board.wait(4);
        Check.equal("left later", board.is(Board.TIMER), 4);
        Check.equal("it has not ended", Board.with().out(4, 18).out(0, START).in(0), 0);
        board.wait(4);
        Check.equal("left at the end", board.is(Board.TIMER), 0);
        Check.equal("it ended", board.in(0), 64);
        Check.equal("it was read", board.in(0), 0);
        Check.equal("7.5 is wanted still", board.at(board.is(Board.PC), Board.READ_MASK).after(1).is(Board.A), 64 + 7);
    }

    private static void goesOn() {
        for (int high = 0; high < 256; high++) {
            // A length that ends in sight: only the bits that tell it are 0.
            if (high % 64 <= 1) {
                Board once = Board.with().out(4, 20).out(5, high).out(0, START).wait(300);
                int length = high % 64 * 256 + 20;
                Check.equal("high byte " + high, once.is(Board.TIMER), high / 64 % 2 == 1 ? length - 310 % length : 0);
            }
        }
        Board board = Board.with().out(4, 20).out(5, 64).out(0, START);
        Check.equal("left", board.is(Board.TIMER), 10);
        Check.equal("not ended", board.in(0), 0);
        Check.equal("from its length again", board.is(Board.TIMER), 20);
        Check.equal("ended", board.in(0), 64);
        Check.equal("left then", board.is(Board.TIMER), 10);
        Check.equal("not ended again", board.in(0), 0);
        Check.equal("ended again", board.in(0), 64);
    }

    private static void stops() {
        Board board = Board.with().out(4, 100).out(5, 64).out(0, START).out(0, STOP);
        Check.equal("left", board.is(Board.TIMER), 0);
        board.wait(120);
        Check.equal("it never ended", board.in(0), 0);
        board.out(0, START);
        Check.equal("started anew", board.is(Board.TIMER), 90);
    }

    private static void stopsAtTheEnd() {
        Board board = Board.with().out(4, 40).out(5, 64).out(0, START).out(0, STOP_AT_END);
        Check.equal("it runs on", board.is(Board.TIMER), 13);
        board.wait(12);
        Check.equal("until the last tick", board.is(Board.TIMER), 1);
        board.wait(4);
        Check.equal("and stops", board.is(Board.TIMER), 0);
        Check.equal("it ended", board.in(0), 64);
        board.wait(100);
        Check.equal("it did not end again", board.in(0), 0);
    }

    private static void stopAtTheEndIsForgotten() {
        Board stopped = Board.with().out(4, 40).out(5, 64).out(0, STOP_AT_END).out(0, START).wait(32);
        Check.equal("nothing if it doesn't run", stopped.is(Board.TIMER), 38);
        Board running = Board.with().out(4, 40).out(5, 64).out(0, START).out(0, STOP_AT_END).out(0, START).wait(32);
        Check.equal("a start forgets it", running.is(Board.TIMER), 38);
        Board again = Board.with().out(4, 40).out(5, 64).out(0, START).out(0, STOP_AT_END).wait(40).out(0, START).wait(32);
        Check.equal("also behind the end", again.is(Board.TIMER), 38);
        Board between = Board.with().out(4, 40).out(5, 64).out(0, START).out(0, STOP_AT_END).out(0, STOP).out(0, START).wait(32);
        Check.equal("also behind a stop", between.is(Board.TIMER), 38);
    }

    private static void loadsOnlyAtTheStart() {
        Board board = Board.with().out(4, 40).out(5, 64).out(0, START).out(4, 99).out(5, 0);
        // 10 + 17 + 17 ticks went by: 40 ended once.
        Check.equal("its length as it was", board.is(Board.TIMER), 36);
        board.wait(36);
        Check.equal("it goes on as it did", board.is(Board.TIMER), 40);
        board.out(0, START);
        Check.equal("the new length at a start", board.is(Board.TIMER), 89);
        board.out(5, 64).wait(72);
        Check.equal("and it doesn't go on", board.is(Board.TIMER), 0);
    }

    private static void restarts() {
        Board board = Board.with().out(4, 200).out(0, START).wait(40).out(0, START);
        Check.equal("loaded again", board.is(Board.TIMER), 190);
    }

    private static void otherBitsDoNothing() {
        Board board = Board.with().out(4, 200).out(0, START + 63);
        Check.equal("start with other bits", board.is(Board.TIMER), 190);
        board.out(0, 63);
        Check.equal("bits 6 and 7 both 0", board.is(Board.TIMER), 173);
        board.out(0, STOP + 63);
        Check.equal("stop with other bits", board.is(Board.TIMER), 0);
    }

    private static void countsEveryTick() {
        Board board = Board.with().out(4, 200).out(0, START);
        board.at(board.is(Board.PC), 0xCD, 0, 2).at(512, Board.HALT).after(1);
        Check.equal("a call's ticks", board.is(Board.TIMER), 190 - 16);
        board.after(10);
        Check.equal("a halting processor's ticks", board.is(Board.TIMER), 190 - 16 - 40);
    }

    private static void otherPorts() {
        for (int port = 0; port < 256; port++) {
            if (port != 0 && port != 8 && port != 9) {
                Check.equal("port " + port, Board.with().out(port, 5).in(port), 255);
            }
            if (port != 0) {
                Board board = Board.with().out(4, 250).out(0, START).out(port, 64);
                Check.equal("timer behind port " + port, board.is(Board.TIMER), 240 - 17);
            }
            if (port != 8 && port != 9) {
                Board board = Board.with().out(port, 128 + 5);
                Check.equal("display behind port " + port, board.kit.shown(0), 0);
                Check.equal("place behind port " + port, board.out(8, 1).kit.shown(0), 1);
            }
            if (port != 0 && port != 4 && port != 5) {
                Board board = Board.with().out(4, 250).out(port, 3).out(0, START);
                Check.equal("length behind port " + port, board.is(Board.TIMER), 240);
            }
        }
        Board board = Board.with(Board.IN, 77).having(Board.FLAGS, 247).after(1);
        Check.equal("reading a port leaves the flags", board.is(Board.FLAGS), 247);
    }
}
