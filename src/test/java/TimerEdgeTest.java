/** Terms: the timer's shortest and longest length, the tick in which it ends, and its commands before and behind that. */
final class TimerEdgeTest {
    private static final int START = 192;
    private static final int STOP = 64;
    private static final int STOP_AT_END = 128;
    private static final int GOES_ON = 0x4000;
    // The instruction that starts it takes so many ticks, which go by behind it.
    private static final int START_TICKS = 10;
    private static final int WANTED_75 = 64;

    public static void main(String[] args) {
        lengthsBelow2();
        lengthOfANewObject();
        lengthsOf14Bits();
        bit14AndBit15();
        bytesOfTheLength();
        endsAtTheTick();
        goesOnAtTheTick();
        endsSeveralTimes();
        endedIsToldOnce();
        endsInTheTicksOfReading();
        stopJustBeforeTheEnd();
        stopBehindTheEnd();
        stopAtTheEndOfOneThatRuns();
        stopAtTheEndOfOneThatEndsAnyway();
        stopAtTheEndOfOneThatDoesNotRun();
        startForgetsStopAtTheEnd();
        startWhileItRuns();
        loadWhileItRuns();
        commandZero();
        leftWhenItDoesNotRun();
        Check.end();
    }

    private static Board loaded(int load) {
        return Board.with().out(4, load % 256).out(5, load / 256);
    }

    private static Board started(int load) {
        return loaded(load).out(0, START);
    }

    private static int wanted75(Board board) {
        return board.at(950, Board.READ_MASK).having(Board.PC, 950).after(1).is(Board.A) & WANTED_75;
    }

    /** One that goes on shows its length by what is left behind 10, 14 and 18 ticks. */
    private static void isLength(int load, int length) {
        Board board = started(load);
        for (int ticks = START_TICKS; ticks <= 18; ticks += 4) {
            Check.equal("left of " + load + " at " + ticks, board.is(Board.TIMER), length - ticks % length);
            board.wait(4);
        }
    }

    private static void lengthsBelow2() {
        isLength(GOES_ON, 2);
        isLength(GOES_ON + 1, 2);
        isLength(GOES_ON + 2, 2);
        isLength(GOES_ON + 3, 3);
        isLength(GOES_ON + 4, 4);
        isLength(GOES_ON + 7, 7);
    }

    private static void lengthOfANewObject() {
        // Only bit 14 is written: the length is the new object's.
        Board board = Board.with().out(5, 64).out(0, START);
        Check.equal("left at 10", board.is(Board.TIMER), 2);
        board.at(950, Board.LOAD_A, 0).having(Board.PC, 950).after(1);
        Check.equal("left at 17", board.is(Board.TIMER), 1);
        Board once = Board.with().out(0, START);
        Check.equal("it doesn't go on", once.is(Board.TIMER), 0);
        Check.equal("it ended", once.in(0), 64);
    }

    private static void lengthsOf14Bits() {
        Check.equal("255", started(255).is(Board.TIMER), 255 - START_TICKS);
        Check.equal("256", started(256).is(Board.TIMER), 256 - START_TICKS);
        Check.equal("257", started(257).is(Board.TIMER), 257 - START_TICKS);
        Check.equal("16382", started(16382).is(Board.TIMER), 16382 - START_TICKS);
        Check.equal("16383", started(16383).is(Board.TIMER), 16383 - START_TICKS);
        Check.equal("8192", started(8192).is(Board.TIMER), 8192 - START_TICKS);
    }

    private static void bit14AndBit15() {
        Check.equal("bit 14 alone is length 2, and goes on", started(0x4000).is(Board.TIMER), 2);
        Check.equal("bit 15 alone is length 2, and ends", started(0x8000).is(Board.TIMER), 0);
        Check.equal("bit 15 with 20", started(0x8000 + 20).is(Board.TIMER), 20 - START_TICKS);
        Check.equal("bit 15 with 20 doesn't go on", started(0x8000 + 20).wait(12).is(Board.TIMER), 0);
        Check.equal("both with 20 go on", started(0xC000 + 20).wait(12).is(Board.TIMER), 18);
        Check.equal("all bits", started(0xFFFF).is(Board.TIMER), 16383 - START_TICKS);
        // The longest one: 10 + 20 * 800 + 372 ticks leave 1, and behind 4 more it ended 3 ticks ago.
        Board longest = started(0x4000 + 16383);
        for (int i = 0; i < 20; i++) {
            longest.wait(800);
        }
        Check.equal("the longest, almost at its end", longest.wait(372).is(Board.TIMER), 1);
        Check.equal("the longest goes on", longest.wait(4).is(Board.TIMER), 16383 - 3);
        Check.equal("the longest ended", longest.in(0), 64);
    }

    private static void bytesOfTheLength() {
        Check.equal("the low byte last", Board.with().out(5, 1).out(4, 3).out(0, START).is(Board.TIMER), 259 - START_TICKS);
        Check.equal("the low byte again", loaded(300).out(4, 99).out(0, START).is(Board.TIMER), 256 + 99 - START_TICKS);
        Check.equal("the high byte again", loaded(300).out(5, 2).out(0, START).is(Board.TIMER), 512 + 44 - START_TICKS);
        Check.equal("a length below 2 in between", loaded(0).out(5, 1).out(0, START).is(Board.TIMER), 256 - START_TICKS);
        Check.equal("the low byte is left at 1", loaded(1).out(5, 1).out(0, START).is(Board.TIMER), 257 - START_TICKS);
    }

    /** Four ticks behind the start: one tick past the end, at the end, and one tick before. */
    private static void endsAtTheTick() {
        Board past = started(13).wait(4);
        Check.equal("past the end", past.is(Board.TIMER), 0);
        Check.equal("past: 7.5", wanted75(past), 64);
        Check.equal("past: port 0", past.in(0), 64);
        Board at = started(14).wait(4);
        Check.equal("at the end", at.is(Board.TIMER), 0);
        Check.equal("at: 7.5", wanted75(at), 64);
        Check.equal("at: port 0", at.in(0), 64);
        Board before = started(15).wait(4);
        Check.equal("before the end", before.is(Board.TIMER), 1);
        Check.equal("before: port 0", before.in(0), 0);
        Board unread = started(15).wait(4);
        Check.equal("before: 7.5", wanted75(unread), 0);
        Check.equal("then it ends", wanted75(unread), 64);
    }

    private static void goesOnAtTheTick() {
        Check.equal("one tick past", started(GOES_ON + 13).wait(4).is(Board.TIMER), 12);
        Check.equal("at the end it is at its length", started(GOES_ON + 14).wait(4).is(Board.TIMER), 14);
        Check.equal("one tick before", started(GOES_ON + 15).wait(4).is(Board.TIMER), 1);
    }

    private static void endsSeveralTimes() {
        Board board = started(GOES_ON + 2);
        Check.equal("five ends are told once", board.in(0), 64);
        Check.equal("five more", board.in(0), 64);
        board.out(0, STOP);
        Check.equal("those until the stop", board.in(0), 64);
        Check.equal("none then", board.in(0), 0);
    }

    private static void endedIsToldOnce() {
        Check.equal("a new one never ended", Board.with().in(0), 0);
        Board board = started(10);
        Check.equal("ended", board.in(0), 64);
        Check.equal("told", board.in(0), 0);
        Check.equal("told", board.in(0), 0);
        board.out(0, START);
        Check.equal("ended again", board.in(0), 64);
        // A start doesn't take back what wasn't told.
        Board untold = started(10).out(4, 200).out(0, START);
        Check.equal("untold before the start", untold.in(0), 64);
        Check.equal("told behind it", untold.in(0), 0);
        Board stopped = started(10).out(0, STOP);
        Check.equal("untold before the stop", stopped.in(0), 64);
    }

    private static void endsInTheTicksOfReading() {
        Board board = started(20);
        Check.equal("its ticks go by behind it", board.in(0), 0);
        Check.equal("the next one tells it", board.in(0), 64);
        Board later = started(21);
        Check.equal("not in these ten ticks", later.in(0), 0);
        Check.equal("nor before the next", later.in(0), 0);
        Check.equal("but in its ticks", later.in(0), 64);
    }

    private static void stopJustBeforeTheEnd() {
        // 7 ticks of loading A leave 1 or 0.
        Board before = started(GOES_ON + 18).out(0, STOP).wait(40);
        Check.equal("one tick before", before.is(Board.TIMER), 0);
        Check.equal("it never ended", before.in(0), 0);
        Check.equal("7.5 isn't wanted", wanted75(before), 0);
        Board at = started(GOES_ON + 17).out(0, STOP).wait(40);
        Check.equal("at the end", at.is(Board.TIMER), 0);
        Check.equal("it ended once", at.in(0), 64);
        Check.equal("and no more", at.in(0), 0);
    }

    private static void stopBehindTheEnd() {
        Board board = started(10);
        Check.equal("7.5 before the stop", wanted75(board), 64);
        Check.equal("a stop leaves 7.5 wanted", wanted75(board.out(0, STOP)), 64);
        Check.equal("a stop of a new one", Board.with().out(0, STOP).wait(40).in(0), 0);
    }

    private static void stopAtTheEndOfOneThatRuns() {
        // 10 + 17 ticks: 13 are left. One tick before, at, and past the end.
        Check.equal("before", started(GOES_ON + 40).out(0, STOP_AT_END).wait(12).is(Board.TIMER), 1);
        Board at = started(GOES_ON + 39).out(0, STOP_AT_END).wait(12);
        Check.equal("at", at.is(Board.TIMER), 0);
        Check.equal("it ended", at.in(0), 64);
        Check.equal("once", at.wait(200).in(0), 0);
        Check.equal("past", started(GOES_ON + 38).out(0, STOP_AT_END).wait(12).is(Board.TIMER), 0);
        // With 1 left it comes in time; with 0 left it went on already, and ends next.
        Check.equal("in the last tick", started(GOES_ON + 18).out(0, STOP_AT_END).is(Board.TIMER), 0);
        Check.equal("at the end before", started(GOES_ON + 17).out(0, STOP_AT_END).is(Board.TIMER), 7);
        Check.equal("and then it stops", started(GOES_ON + 17).out(0, STOP_AT_END).wait(8).is(Board.TIMER), 0);
    }

    private static void stopAtTheEndOfOneThatEndsAnyway() {
        Board board = started(40).out(0, STOP_AT_END);
        Check.equal("it runs on", board.is(Board.TIMER), 13);
        Check.equal("it ends", board.wait(16).in(0), 64);
        Check.equal("as it would", board.is(Board.TIMER), 0);
    }

    private static void stopAtTheEndOfOneThatDoesNotRun() {
        Board never = loaded(GOES_ON + 40).out(0, STOP_AT_END);
        Check.equal("it doesn't start", never.wait(100).in(0), 0);
        Check.equal("nothing was kept", never.out(0, START).wait(32).is(Board.TIMER), 38);
        Board ended = started(40).wait(40).out(0, STOP_AT_END).out(5, 64).out(0, START).wait(32);
        Check.equal("nothing behind an end", ended.is(Board.TIMER), 38);
        Board stopped = started(GOES_ON + 40).out(0, STOP).out(0, STOP_AT_END).out(0, START).wait(32);
        Check.equal("nothing behind a stop", stopped.is(Board.TIMER), 38);
    }

    private static void startForgetsStopAtTheEnd() {
        Board running = started(GOES_ON + 40).out(0, STOP_AT_END).out(0, START).wait(32);
        Check.equal("of one that runs", running.is(Board.TIMER), 38);
        Board stopped = started(GOES_ON + 40).out(0, STOP_AT_END).out(0, STOP).out(0, START).wait(32);
        Check.equal("of one that was stopped", stopped.is(Board.TIMER), 38);
        Board ended = started(GOES_ON + 40).out(0, STOP_AT_END).wait(40).out(0, START).wait(32);
        Check.equal("of one that ended by it", ended.is(Board.TIMER), 38);
    }

    private static void startWhileItRuns() {
        Check.equal("one tick before the end", started(18).out(0, START).is(Board.TIMER), 8);
        Check.equal("it did not end", started(18).out(0, START).in(0), 0);
        Check.equal("at the end", started(17).out(0, START).is(Board.TIMER), 7);
        Check.equal("it ended before", started(17).out(0, START).in(0), 64);
        Check.equal("with another length", started(200).out(4, 100).out(0, START).is(Board.TIMER), 90);
    }

    private static void loadWhileItRuns() {
        // 10 + 17 ticks went by: 3 are left, and 4 ticks later it went on from its own length.
        Check.equal("the length as it was", started(GOES_ON + 30).out(4, 200).wait(4).is(Board.TIMER), 29);
        Check.equal("going on as it was", started(GOES_ON + 30).out(5, 0).wait(4).is(Board.TIMER), 29);
        Check.equal("not going on as it was", started(30).out(5, 64).wait(4).is(Board.TIMER), 0);
        Check.equal("the new ones at the next start", started(30).out(5, 64).out(0, START).wait(24).is(Board.TIMER), 26);
    }

    private static void commandZero() {
        for (int v : new int[] {0, 1, 63}) {
            Check.equal("of one that runs", started(100).out(0, v).is(Board.TIMER), 73);
            Check.equal("of one that doesn't", loaded(100).out(0, v).is(Board.TIMER), 0);
            Check.equal("of one that goes on", started(GOES_ON + 30).out(0, v).wait(4).is(Board.TIMER), 29);
            Board stopping = started(GOES_ON + 40).out(0, STOP_AT_END).out(0, v);
            Check.equal("of one that is to stop", stopping.is(Board.TIMER), 0);
            Check.equal("an end that wasn't told", started(10).out(0, v).in(0), 64);
        }
        // The other bits of a command don't count.
        Check.equal("64 + 63 stops", started(100).out(0, 127).is(Board.TIMER), 0);
        Check.equal("128 + 63 stops at the end", started(GOES_ON + 30).out(0, 191).wait(4).is(Board.TIMER), 0);
        Check.equal("192 + 63 starts", loaded(100).out(0, 255).is(Board.TIMER), 90);
    }

    private static void leftWhenItDoesNotRun() {
        Check.equal("new", new Board().is(Board.TIMER), 0);
        Check.equal("loaded", loaded(100).is(Board.TIMER), 0);
        Check.equal("stopped", started(100).out(0, STOP).is(Board.TIMER), 0);
        Check.equal("ended", started(10).is(Board.TIMER), 0);
        Check.equal("stays stopped", started(100).out(0, STOP).wait(8).is(Board.TIMER), 0);
    }
}
