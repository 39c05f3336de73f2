/** A KeyboardKit with short ways to fill and ask it. */
final class Board {
    static final int B = 0;
    static final int C = 1;
    static final int D = 2;
    static final int E = 3;
    static final int H = 4;
    static final int L = 5;
    static final int FLAGS = 6;
    static final int A = 7;
    static final int SP = 8;
    static final int PC = 9;
    static final int STATE = 10;
    static final int MASKS = 11;
    static final int SERIAL_OUT = 12;
    static final int TIMER = 13;
    static final int STATUS = 14;

    static final int NOP = 0;
    static final int READ_MASK = 0x20;
    static final int SET_MASK = 0x30;
    static final int LOAD_A = 0x3E;
    static final int HALT = 0x76;
    static final int JUMP = 0xC3;
    static final int RETURN = 0xC9;
    static final int OUT = 0xD3;
    static final int IN = 0xDB;
    static final int OFF = 0xF3;
    static final int ON = 0xFB;

    // From NOTHING on 200 bytes stay 0: waiting executes them. At SCRATCH the ports' programs lie.
    private static final int NOTHING = 700;
    private static final int SCRATCH = 900;

    final KeyboardKit kit = new KeyboardKit();

    /** A new board with a program at 0 and the stack below 512. */
    static Board with(int... program) {
        Board board = new Board();
        board.kit.set(SP, 512);
        return board.at(0, program);
    }

    Board at(int address, int... bytes) {
        for (int i = 0; i < bytes.length; i++) {
            kit.poke(address + i, bytes[i]);
        }
        return this;
    }

    Board having(int which, int v) {
        kit.set(which, v);
        return this;
    }

    Board after(int steps) {
        kit.steps(steps);
        return this;
    }

    int is(int which) {
        return kit.about(which);
    }

    int pair(int first) {
        return kit.about(first) * 256 + kit.about(first + 1);
    }

    /** Writes a byte to a port, by a program of its own: 17 ticks. */
    Board out(int port, int v) {
        at(SCRATCH, LOAD_A, v, OUT, port);
        return having(PC, SCRATCH).after(2);
    }

    /** Reads a port, by a program of its own: 10 ticks. */
    int in(int port) {
        at(SCRATCH, IN, port);
        return having(PC, SCRATCH).after(1).is(A);
    }

    /** Lets ticks go by (a multiple of 4, up to 800) with instructions that do nothing. */
    Board wait(int ticks) {
        return having(PC, NOTHING).after(ticks / 4);
    }
}
