/** Promise 4: interrupts, masks and the serial bits. */
final class InterruptTest {
    public static void main(String[] args) {
        servedBehindTheNextInstruction();
        onAgainHoldsBackAgain();
        offAgainServesNone();
        haltIsLeft();
        everyMask();
        timerIsServedOnce();
        timerIsTakenBack();
        lineIsServedAsLongAsItIsOn();
        keysAreServedUntilTheQueueIsEmpty();
        setMaskBits();
        readMaskBits();
        ticksOfTheCall();
        Check.end();
    }

    private static Board open(int... program) {
        Board board = Board.with(program).at(1000, Board.SET_MASK).having(Board.A, 8).having(Board.PC, 1000).after(1);
        return board.having(Board.PC, 0);
    }

    private static void servedBehindTheNextInstruction() {
        Board board = open(Board.ON, 0x04, 0x04);
        board.kit.line(0, true);
        Check.equal("ticks of ON", board.kit.step(), 4);
        Check.equal("PC behind ON", board.is(Board.PC), 1);
        board.after(1);
        Check.equal("the next instruction came first", board.is(Board.PC), 2);
        Check.equal("B", board.is(Board.B), 1);
        Check.equal("ticks of the call", board.kit.step(), 10);
        Check.equal("PC", board.is(Board.PC), 52);
        Check.equal("they are OFF", board.is(Board.STATE), 0);
        Check.equal("pushed", board.kit.peek(510), 2);
        Check.equal("pushed high", board.kit.peek(511), 0);
        Check.equal("SP", board.is(Board.SP), 510);
        board.after(1);
        Check.equal("no other while they are OFF", board.is(Board.PC), 53);
        Check.equal("without ON none is served", waitOff(), 3);
    }

    private static int waitOff() {
        Board board = open(0, 0, 0);
        board.kit.line(0, true);
        return board.after(3).is(Board.PC);
    }

    private static void onAgainHoldsBackAgain() {
        Board board = open(Board.ON, Board.NOP, Board.ON, Board.ON, Board.NOP, Board.NOP).after(2);
        board.after(1);
        board.kit.line(0, true);
        board.after(1);
        Check.equal("ON was executed", board.is(Board.PC), 4);
        board.after(1);
        Check.equal("and the instruction behind it", board.is(Board.PC), 5);
        board.after(1);
        Check.equal("then it is served", board.is(Board.PC), 52);
    }

    private static void offAgainServesNone() {
        Board board = open(Board.ON, Board.OFF, 0, 0);
        board.kit.line(0, true);
        Check.equal("PC", board.after(4).is(Board.PC), 4);
    }

    private static void haltIsLeft() {
        Board board = open(Board.ON, Board.HALT, 0x04).at(52, Board.RETURN).after(5);
        Check.equal("it halts", board.is(Board.STATE), 3);
        Check.equal("PC is behind HALT", board.is(Board.PC), 2);
        Check.equal("ticks of halting", board.kit.step(), 4);
        Check.equal("ticks of halting steps", board.kit.steps(200), 800);
        board.kit.line(0, true);
        Check.equal("ticks of the call", board.kit.step(), 10);
        Check.equal("it goes on", board.is(Board.STATE), 0);
        Check.equal("PC", board.is(Board.PC), 52);
        board.after(2);
        Check.equal("behind HALT", board.is(Board.B), 1);
        Board off = open(Board.HALT, 0x04).after(1);
        off.kit.line(0, true);
        Check.equal("OFF: it halts for ever", off.after(10).is(Board.STATE), 2);
        Board masked = Board.with(Board.ON, Board.HALT, 0x04).after(2);
        masked.kit.line(0, true);
        Check.equal("masked: it halts for ever", masked.after(10).is(Board.STATE), 3);
        Check.equal("PC stays", masked.is(Board.PC), 2);
    }

    /** A board on which the wanted ones are wanted, and the processor waits with masks at ON. */
    private static Board wanting(int wanted, int masks) {
        Board board = Board.with();
        if ((wanted & 1) != 0) {
            board.kit.key(5, true);
            board.wait(128);
        }
        if ((wanted & 4) != 0) {
            board.out(4, 2).out(0, 192);
        }
        board.kit.line(0, (wanted & 2) != 0);
        board.at(200, Board.SET_MASK, Board.ON, Board.NOP, Board.NOP).having(Board.A, 8 + masks).having(Board.PC, 200);
        return board;
    }

    private static void everyMask() {
        for (int wanted = 0; wanted < 8; wanted++) {
            for (int masks = 0; masks < 8; masks++) {
                Board board = wanting(wanted, masks).after(4);
                int due = wanted & ~masks;
                int pc = due >= 4 ? 60 : due >= 2 ? 52 : due == 1 ? 44 : 204;
                Check.equal("wanted " + wanted + ", masks " + masks, board.is(Board.PC), pc);
                Check.equal("ON then", board.is(Board.STATE), due == 0 ? 1 : 0);
                board.at(board.is(Board.PC), Board.READ_MASK).after(1);
                int left = due >= 4 ? wanted - 4 : wanted;
                Check.equal("wanted then", board.is(Board.A), masks + (due == 0 ? 8 : 0) + 16 * left);
            }
        }
    }

    private static void timerIsServedOnce() {
        Board board = wanting(4, 0).at(60, Board.ON, Board.RETURN).after(6);
        Check.equal("returned", board.is(Board.PC), 203);
        Check.equal("not served again", board.after(1).is(Board.PC), 204);
    }

    private static void timerIsTakenBack() {
        Board board = wanting(4, 16).after(4);
        Check.equal("7.5 isn't wanted", board.is(Board.PC), 204);
        Check.equal("the timer still ended", board.in(0), 64);
        Board read = wanting(4, 0);
        read.having(Board.PC, 300).in(0);
        read.having(Board.PC, 200).having(Board.A, 8).after(4);
        Check.equal("reading the timer doesn't take it back", read.is(Board.PC), 60);
    }

    private static void lineIsServedAsLongAsItIsOn() {
        Board board = wanting(2, 0).at(52, Board.ON, Board.RETURN).after(7);
        Check.equal("served again", board.is(Board.PC), 52);
        board.kit.line(0, false);
        Check.equal("returned", board.after(2).is(Board.PC), 203);
        Check.equal("not wanted then", board.after(1).is(Board.PC), 204);
        Board gone = wanting(2, 0).after(3);
        gone.kit.line(0, false);
        Check.equal("a line that went off before", gone.after(1).is(Board.PC), 204);
    }

    private static void keysAreServedUntilTheQueueIsEmpty() {
        Board board = Board.with();
        board.kit.key(5, true);
        board.kit.key(9, true);
        board.wait(128).at(44, Board.IN, 8, Board.ON, Board.RETURN);
        board.at(200, Board.SET_MASK, Board.ON, Board.NOP, Board.NOP).having(Board.A, 8).having(Board.PC, 200).after(5);
        Check.equal("first key", board.is(Board.A), 5);
        board.after(2);
        Check.equal("returned", board.is(Board.PC), 203);
        board.after(2);
        Check.equal("second key", board.is(Board.A), 9);
        board.after(3);
        Check.equal("none is left", board.is(Board.PC), 204);
    }

    private static void setMaskBits() {
        for (int a = 0; a < 256; a++) {
            Board board = Board.with(Board.SET_MASK, Board.LOAD_A, a, Board.SET_MASK, 0).having(Board.A, 64 + 128 * (a % 2) + 8 + 5).after(1);
            Check.equal("masks before", board.is(Board.MASKS), 5);
            Check.equal("serial bit before", board.is(Board.SERIAL_OUT), a % 2);
            board.after(2);
            Check.equal("masks by " + a, board.is(Board.MASKS), a / 8 % 2 == 1 ? a % 8 : 5);
            Check.equal("serial bit by " + a, board.is(Board.SERIAL_OUT), a / 64 % 2 == 1 ? a / 128 : a % 2);
            Check.equal("A stays", board.is(Board.A), a);
            Check.equal("they stay OFF", board.is(Board.STATE), 0);
        }
    }

    private static void readMaskBits() {
        Board board = Board.with(Board.SET_MASK, Board.ON, Board.READ_MASK).having(Board.A, 8 + 2).having(Board.FLAGS, 247);
        board.kit.line(0, true);
        board.kit.line(1, true);
        board.after(3);
        Check.equal("READ MASK", board.is(Board.A), 2 + 8 + 32 + 128);
        Check.equal("flags stay", board.is(Board.FLAGS), 247);
        Check.equal("serial bit out isn't the one in", board.is(Board.SERIAL_OUT), 0);
    }

    private static void ticksOfTheCall() {
        // The timer counts the ticks of the call, and ends in them.
        Board board = wanting(2, 0).at(203, Board.NOP);
        board.having(Board.PC, 400).out(4, 24).out(0, 192);
        Check.equal("left before", board.is(Board.TIMER), 14);
        board.having(Board.PC, 200).having(Board.A, 8).after(3);
        Check.equal("left at the call", board.is(Board.TIMER), 2);
        board.after(1);
        Check.equal("6.5 was served", board.is(Board.PC), 52);
        Check.equal("it ended in the call", board.is(Board.TIMER), 0);
        Check.equal("and is wanted", board.at(52, Board.READ_MASK).after(1).is(Board.A), 64 + 32);
    }
}
