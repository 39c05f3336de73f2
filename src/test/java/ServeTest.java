/** Terms: interrupts just before, at and just behind the instruction where they may be served, and HALT. */
final class ServeTest {
    private static final int START = 192;
    private static final int PUSH = 0xF5;

    public static void main(String[] args) {
        nothingBeforeTheNextInstruction();
        onWhenAlreadyOn();
        anyInstructionIsTheNext();
        haltIsTheNext();
        offIsTheNext();
        timerEndsAtTheInstruction();
        timerEndsInTheTicksOfOn();
        timerEndsInTheTicksOfSetMask();
        timerEndsInTheTicksOfTheCall();
        endsBeforeItIsServedAreOne();
        maskedWaits();
        setMaskOpens();
        wantedNoMore();
        keyComesAtTheInstruction();
        firstOfSeveral();
        offAfterServing();
        onAndOffInTheMask();
        haltTakesTicks();
        haltGoesOnBehindIt();
        Check.end();
    }

    /** All open, the program at 200, and A 8. */
    private static Board open(int... program) {
        return Board.with(Board.SET_MASK).at(200, program).having(Board.A, 8).after(1).having(Board.PC, 200);
    }

    private static Board withLine(int... program) {
        Board board = open(program);
        board.kit.line(0, true);
        return board;
    }

    /** Compares PC behind each of the next steps. */
    private static void goes(String what, Board board, int... due) {
        for (int i = 0; i < due.length; i++) {
            Check.equal(what + ": PC behind step " + (i + 1), board.after(1).is(Board.PC), due[i]);
        }
    }

    private static void nothingBeforeTheNextInstruction() {
        goes("ON", withLine(Board.ON, Board.NOP, Board.NOP), 201, 202, 52, 53);
        goes("never ON", withLine(Board.NOP, Board.NOP, Board.NOP), 201, 202, 203);
        // They were ON for long: the next instruction doesn't come first.
        Board board = open(Board.ON, Board.NOP, Board.NOP, Board.NOP).after(3);
        board.kit.line(0, true);
        goes("ON for long", board, 52);
    }

    private static void onWhenAlreadyOn() {
        goes("ON twice", withLine(Board.ON, Board.ON, Board.NOP, Board.NOP), 201, 202, 203, 52);
        Board five = withLine(Board.ON, Board.ON, Board.ON, Board.ON, Board.ON, Board.NOP);
        goes("ON five times", five, 201, 202, 203, 204, 205, 206, 52);
        Board board = open(Board.ON, Board.NOP, Board.ON, Board.NOP, Board.NOP).after(3);
        board.kit.line(0, true);
        goes("ON when ON for long", board, 204, 52);
    }

    private static void anyInstructionIsTheNext() {
        for (int first : new int[] {0x00, 0x08, 0x28, 0x3C, 0x80, 0xD9, 0xED, Board.READ_MASK, Board.SET_MASK}) {
            goes("ON and " + first, withLine(Board.ON, first, Board.NOP), 201, 202, 52);
        }
        goes("ON and a jump", withLine(Board.ON, Board.JUMP, 44, 1).at(300, Board.NOP), 201, 300, 52);
        goes("ON and a jump that isn't taken", withLine(Board.ON, 0xCA, 44, 1), 201, 204, 52);
        Board returns = withLine(Board.ON, Board.RETURN).at(512, 44, 1);
        goes("ON and a return", returns, 201, 300, 52);
        Check.equal("the return's place is pushed", returns.kit.peek(512) + 256 * returns.kit.peek(513), 300);
    }

    private static void haltIsTheNext() {
        Board board = withLine(Board.ON, Board.HALT, Board.NOP);
        Check.equal("ON", board.after(1).is(Board.STATE), 1);
        Check.equal("HALT comes first", board.after(1).is(Board.STATE), 3);
        Check.equal("PC is behind it", board.is(Board.PC), 202);
        Check.equal("then it goes on", board.after(1).is(Board.STATE), 0);
        Check.equal("at 52", board.is(Board.PC), 52);
    }

    private static void offIsTheNext() {
        goes("ON and OFF", withLine(Board.ON, Board.OFF, Board.NOP, Board.NOP), 201, 202, 203, 204);
        goes("ON, OFF, ON", withLine(Board.ON, Board.OFF, Board.ON, Board.NOP), 201, 202, 203, 204, 52);
        Check.equal("OFF when OFF", open(Board.OFF).after(1).is(Board.STATE), 0);
    }

    /** With ON before, the timer started with so many ticks to go; then come instructions of 4 ticks. */
    private static Board timed(int length) {
        Board board = open(Board.ON, Board.LOAD_A, length, Board.OUT, 4, Board.LOAD_A, START, Board.OUT, 0, 0, 0, 0, 0);
        return board.after(5);
    }

    private static void timerEndsAtTheInstruction() {
        goes("in the start's last tick", timed(10), 60);
        goes("one tick later", timed(11), 210, 60);
        goes("in the last tick of the instruction", timed(14), 210, 60);
        goes("one tick later than that", timed(15), 210, 211, 60);
        goes("in the last tick of the second", timed(18), 210, 211, 60);
        goes("one tick later than that", timed(19), 210, 211, 212, 60);
    }

    private static void timerEndsInTheTicksOfOn() {
        Board board = open(Board.LOAD_A, 14, Board.OUT, 4, Board.LOAD_A, START, Board.OUT, 0, Board.ON, 0, 0).after(4);
        goes("wanted before the next, but served behind it", board, 209, 210, 60);
    }

    private static void timerEndsInTheTicksOfSetMask() {
        // Bit 4 takes back an end that was; one in the ticks behind it stays.
        int[] due = {0, 64, 64, 64, 64, 0};
        for (int length = 17; length <= 22; length++) {
            Board board = open(Board.LOAD_A, length, Board.OUT, 4, Board.LOAD_A, START, Board.OUT, 0, Board.LOAD_A, 16,
                Board.SET_MASK).after(6);
            // Read without ticks in between: what READ MASK tells is what was wanted before it.
            int wanted = board.at(300, Board.READ_MASK).having(Board.PC, 300).after(1).is(Board.A) & 64;
            Check.equal("7.5 behind SET MASK, length " + length, wanted, due[length - 17]);
        }
    }

    private static void timerEndsInTheTicksOfTheCall() {
        // It goes on with 5: served, it is wanted again behind the call's 10 ticks.
        Board board = open(Board.LOAD_A, 5, Board.OUT, 4, Board.LOAD_A, 64, Board.OUT, 5, Board.LOAD_A, START, Board.OUT, 0,
            Board.ON, Board.NOP).at(60, Board.READ_MASK).after(8);
        goes("served", board, 60);
        Check.equal("wanted again", board.after(1).is(Board.A), 64);
    }

    private static void endsBeforeItIsServedAreOne() {
        Board board = open(Board.LOAD_A, 3, Board.OUT, 4, Board.LOAD_A, 64, Board.OUT, 5, Board.LOAD_A, START, Board.OUT, 0,
            Board.LOAD_A, 64, Board.OUT, 0, Board.ON, Board.NOP, Board.NOP, Board.NOP).at(60, Board.ON, Board.RETURN);
        goes("several ends, stopped, one call", board.after(10), 60, 61, 218, 219, 220);
    }

    private static void maskedWaits() {
        Board board = Board.with().at(200, Board.ON, Board.NOP, Board.NOP, Board.NOP, Board.LOAD_A, 8 + 5, Board.SET_MASK,
            Board.NOP).having(Board.PC, 200);
        board.kit.line(0, true);
        goes("masked, then open", board, 201, 202, 203, 204, 206, 207, 52);
    }

    private static void setMaskOpens() {
        // It is served before the next instruction: only ON holds it back.
        Board board = Board.with().at(200, Board.ON, Board.LOAD_A, 8, Board.SET_MASK, Board.NOP).having(Board.PC, 200);
        board.kit.line(0, true);
        goes("right behind SET MASK", board, 201, 203, 204, 52);
        Board masking = withLine(Board.ON, Board.SET_MASK, Board.NOP, Board.NOP).having(Board.A, 8 + 2);
        goes("masked by the next instruction", masking, 201, 202, 203, 204);
    }

    private static void wantedNoMore() {
        Board line = withLine(Board.ON, Board.NOP, Board.NOP).after(2);
        line.kit.line(0, false);
        goes("the line went off", line, 203);
        Board keys = open(Board.ON, Board.IN, 8, Board.NOP, Board.NOP);
        keys.kit.key(6, true);
        keys.wait(128).having(Board.PC, 200);
        goes("the next instruction takes the only key", keys, 201, 203, 204, 205);
        Board two = open(Board.ON, Board.IN, 8, Board.NOP, Board.NOP);
        two.kit.key(6, true);
        two.kit.key(7, true);
        two.wait(128).having(Board.PC, 200);
        goes("one of two keys is left", two, 201, 203, 44);
        Board timer = open(Board.LOAD_A, START, Board.OUT, 0, Board.LOAD_A, 8 + 16, Board.ON, Board.SET_MASK, Board.NOP,
            Board.NOP);
        goes("SET MASK took 7.5 back", timer.after(4), 208, 209, 210);
    }

    private static void keyComesAtTheInstruction() {
        // SET MASK, ON and 29 more take 124 ticks; the key is down at the scans at 64 and 128.
        Board board = open(Board.ON);
        board.kit.key(6, true);
        board.after(30);
        goes("the scan in the last tick of an instruction", board, 231, 44);
        Check.equal("without a key", open(Board.ON).after(40).is(Board.PC), 240);
    }

    private static void firstOfSeveral() {
        Board board = Board.with().at(60, Board.ON, Board.RETURN).at(52, Board.ON, Board.RETURN).at(44, Board.ON, Board.RETURN);
        board.kit.key(6, true);
        board.wait(128).out(0, START);
        board.kit.line(0, true);
        board.at(200, Board.LOAD_A, 8, Board.SET_MASK, Board.ON, Board.NOP, Board.NOP).having(Board.PC, 200).after(4);
        goes("7.5, then 6.5 as long as it is on", board, 60, 61, 205, 52, 53, 205, 52, 53, 205);
        board.kit.line(0, false);
        goes("then 5.5 as long as a key is there", board, 44, 45, 205, 44, 45, 205);
        board.at(44, Board.IN, 8);
        goes("none then", board, 44, 46);
        Check.equal("the key", board.is(Board.A), 6);
    }

    private static void offAfterServing() {
        Board board = withLine(Board.ON, Board.NOP, Board.NOP).after(3);
        Check.equal("OFF", board.is(Board.STATE), 0);
        goes("no other call", board, 53, 54, 55);
    }

    private static void onAndOffInTheMask() {
        Check.equal("OFF", open(Board.READ_MASK).after(1).is(Board.A), 0);
        Check.equal("ON, also right behind it", open(Board.ON, Board.READ_MASK).after(2).is(Board.A), 8);
        Check.equal("OFF again", open(Board.ON, Board.OFF, Board.READ_MASK).after(3).is(Board.A), 0);
        Board served = withLine(Board.ON, Board.NOP).at(52, Board.READ_MASK).after(4);
        Check.equal("OFF when served, 6.5 still wanted", served.is(Board.A), 32);
    }

    private static void haltTakesTicks() {
        Board board = open(Board.HALT, 0x04);
        Check.equal("ticks of HALT", board.kit.step(), 4);
        for (int i = 0; i < 3; i++) {
            Check.equal("ticks of a step in HALT", board.kit.step(), 4);
            Check.equal("PC in HALT", board.is(Board.PC), 201);
        }
        Check.equal("ticks of 200 steps", board.kit.steps(200), 800);
        Check.equal("B in HALT", board.is(Board.B), 0);
        Check.equal("it halts", board.is(Board.STATE), 2);
        // Keys are scanned in HALT, and the timer runs.
        Board scanned = open(Board.HALT);
        scanned.kit.key(6, true);
        Check.equal("before the second scan", scanned.after(30).is(Board.STATUS), 0);
        Check.equal("at the second scan", scanned.after(1).is(Board.STATUS), 1);
    }

    private static void haltGoesOnBehindIt() {
        Board board = open(Board.ON, Board.LOAD_A, 30, Board.OUT, 4, Board.LOAD_A, START, Board.OUT, 0, Board.HALT, PUSH);
        board.at(60, Board.RETURN).after(6);
        Check.equal("it halts", board.is(Board.STATE), 3);
        // 30 - 10 - 4: four more steps.
        goes("four steps in HALT", board, 210, 210, 210, 210, 60, 210, 211);
        Check.equal("it halts no more", board.is(Board.STATE), 0);
        Board opened = open(Board.HALT);
        opened.kit.line(0, true);
        Check.equal("OFF: it halts on", opened.after(20).is(Board.STATE), 2);
    }
}
