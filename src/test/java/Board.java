/** A KeyboardKit with short ways to fill and ask it. */
final class Board {
    static final int B = 0;
    static final int C = 1;
    static final int D = 2;
    static final int E = 3;
    static final int H = 4;
    static final int L = 5;
    static final int FLAGS = 6;
    static final int A = 7;
    static final int SP = 8;
    static final int PC = 9;
    static final int STATE = 10;
    static final int MASKS = 11;
    static final int SERIAL_OUT = 12;
    static final int TIMER = 13;
    static final int STATUS = 14;

    static final int NOP = 0;
    static final int READ_MASK = 0x20;
    static final int SET_MASK = 0x30;
    static final int LOAD_A = 0x3E;
    static final int HALT = 0x76;
    static final int JUMP = 0xC3;
    static final int RETURN = 0xC9;
    static final int OUT = 0xD3;
    static final int IN = 0xDB;
    static final int OFF = 0xF3;
    static final int ON = 0xFB;

    final KeyboardKit kit = new KeyboardKit();

    /** A new board with a program at 0 and the stack below 512. */
    static Board with(int... program) {
        Board board = new Board();
        board.kit.set(SP, 512);
        return board.at(0, program);
    }

    Board at(int address, int... bytes) {
        for (int i = 0; i < bytes.length; i++) {
            kit.poke(address + i, bytes[i]);
        }
        return this;
    }

    Board having(int which, int v) {
        kit.set(which, v);
        return this;
    }

    Board after(int steps) {
        kit.steps(steps);
        return this;
    }

    int is(int which) {
        return kit.about(which);
    }

    int pair(int first) {
        return kit.about(first) * 256 + kit.about(first + 1);
    }

    /** Writes a byte to a port, by a program that is put where PC is: 17 ticks. */
    Board out(int port, int v) {
        at(is(PC), LOAD_A, v, OUT, port);
        return after(2);
    }

    /** Reads a port, by a program that is put where PC is: 10 ticks. */
    int in(int port) {
        at(is(PC), IN, port);
        after(1);
        return is(A);
    }

    /** Lets ticks go by with instructions that do nothing; ticks are a multiple of 4. */
    Board wait(int ticks) {
        for (int i = 0; i < ticks / 4; i++) {
            kit.poke(is(PC), NOP);
            kit.step();
        }
        return this;
    }
}
