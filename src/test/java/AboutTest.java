/** Promise 8: about. */
final class AboutTest {
    public static void main(String[] args) {
        registersAndPairs();
        stateAndMasks();
        timerAndStatus();
        wrongNumbers();
        Check.end();
    }

    private static void registersAndPairs() {
        // Each register gets a value of its own by an instruction.
        Board board = Board.with(0x06, 1, 0x0E, 2, 0x16, 3, 0x1E, 4, 0x26, 5, 0x2E, 6, 0x3E, 8, 0x37, 0x31, 0x34, 0x12).after(9);
        for (int which = 0; which <= 5; which++) {
            Check.equal("about(" + which + ")", board.is(which), which + 1);
        }
        Check.equal("flags", board.is(Board.FLAGS), 1);
        Check.equal("A", board.is(Board.A), 8);
        Check.equal("SP", board.is(Board.SP), 0x1234);
        Check.equal("PC", board.is(Board.PC), 18);
    }

    private static void stateAndMasks() {
        Check.equal("ON", Board.with(Board.ON).after(1).is(Board.STATE), 1);
        Check.equal("OFF again", Board.with(Board.ON, Board.OFF).after(2).is(Board.STATE), 0);
        Check.equal("halts", Board.with(Board.HALT).after(1).is(Board.STATE), 2);
        Check.equal("ON and halts", Board.with(Board.ON, Board.HALT).after(2).is(Board.STATE), 3);
        for (int masks = 0; masks < 8; masks++) {
            Board board = Board.with(Board.SET_MASK).having(Board.A, 8 + masks).after(1);
            Check.equal("masks", board.is(Board.MASKS), masks);
        }
        Check.equal("serial bit out", Board.with(Board.SET_MASK).having(Board.A, 192).after(1).is(Board.SERIAL_OUT), 1);
    }

    private static void timerAndStatus() {
        Board board = Board.with().out(4, 100).out(0, 192);
        Check.equal("left in the timer", board.is(Board.TIMER), 90);
        board.wait(4);
        Check.equal("less is left", board.is(Board.TIMER), 86);
        Check.equal("asking changes nothing", board.is(Board.TIMER), 86);
        board.out(0, 64);
        Check.equal("left when it doesn't run", board.is(Board.TIMER), 0);
        board.in(8);
        Check.equal("status with UNDERRUN", board.is(Board.STATUS), 16);
        Check.equal("status again", board.is(Board.STATUS), 16);
    }

    private static void wrongNumbers() {
        KeyboardKit kit = new KeyboardKit();
        int[] wrong = {-1, 15, 16, Integer.MIN_VALUE, Integer.MAX_VALUE};
        for (int which : wrong) {
            Check.refusesIndex("about(" + which + ")", () -> kit.about(which));
        }
    }
}
