import java.util.ArrayList;
import java.util.List;
import java.util.function.Supplier;

/** Boards of which no part is as at the beginning, and the answers that tell whether two boards are the same. */
final class Busy {
    private static final int MAIN = 100;
    private static final int MAIN_STEPS = 25;
    private static final int PROBE = 300;
    private static final int PROBED_STEPS = 50;
    private static final int SLICE = 256;
    // Of A and flags.
    private static final int PUSH = 0xF5;

    // Ends behind 214 ticks: UNDERRUN and OVERRUN, six keys in the queue, three bytes shown over the display's end,
    // the timer going on and 7.5 wanted, masks 3, the serial bit out on, all pairs and the byte at HL not 0.
    private static final int[] PROGRAM = {
        Board.IN, 8,
        Board.LOAD_A, 128 + 14, Board.OUT, 9,
        Board.LOAD_A, 11, Board.OUT, 8,
        Board.LOAD_A, 22, Board.OUT, 8,
        Board.LOAD_A, 33, Board.OUT, 8,
        Board.LOAD_A, 90, Board.OUT, 4,
        Board.LOAD_A, 64, Board.OUT, 5,
        Board.LOAD_A, 192, Board.OUT, 0,
        Board.IN, 8,
        Board.IN, 8,
        Board.LOAD_A, 128 + 64 + 8 + 3, Board.SET_MASK,
        0x01, 0x34, 0x12,
        0x11, 0x78, 0x56,
        0x21, 0x9A, 0x02,
        0x36, 0x77,
        Board.LOAD_A, 0x9C,
        0xC6, 0xE5,
    };

    private Busy() {
    }

    /** The last instruction was ON. */
    static Board on() {
        return endingWith(Board.ON);
    }

    /** Interrupts are OFF. */
    static Board off() {
        return endingWith(Board.OFF);
    }

    /** The processor halts, and interrupts are OFF. */
    static Board halted() {
        return endingWith(Board.HALT);
    }

    private static Board endingWith(int last) {
        int end = MAIN + PROGRAM.length;
        Board board = Board.with().at(MAIN, PROGRAM).at(end, last, Board.NOP);
        board.at(end + 2, Board.JUMP, PROBE % 256, PROBE / 256);
        board.at(60, Board.JUMP, PROBE % 256, PROBE / 256);
        board.at(PROBE, Board.READ_MASK, PUSH, Board.IN, 0, PUSH, Board.IN, 0, PUSH);
        for (int i = 0; i < 9; i++) {
            board.at(PROBE + 8 + 3 * i, Board.IN, 8, PUSH);
        }
        board.at(PROBE + 35, Board.OUT, 8, Board.READ_MASK, PUSH);
        for (int k = 0; k < 9; k++) {
            board.kit.key(k, true);
        }
        board.having(Board.PC, MAIN).after(18);
        // Down at the scan of tick 192, and not counted before tick 256.
        board.kit.key(12, true);
        board.kit.line(0, true);
        board.kit.line(1, true);
        board.after(MAIN_STEPS - 18);
        // Counted and up, and down but not seen by a scan.
        board.kit.key(3, false);
        board.kit.key(14, true);
        return board.after(1);
    }

    /**
     * All that can be asked of a board now, and what it does then: a program brings out what can't be asked. An object
     * is made for 512 calls, so several equal ones are made and asked.
     */
    static List<Integer> answers(Supplier<Board> make) {
        List<Integer> answers = new ArrayList<>();
        askNowAndThen(make.get(), answers);
        for (int from = 0; from < 1024; from += SLICE) {
            askMemory(make.get(), from, answers);
            askMemory(make.get().after(PROBED_STEPS), from, answers);
        }
        return answers;
    }

    private static void askNowAndThen(Board board, List<Integer> answers) {
        for (int which = 0; which <= 14; which++) {
            answers.add(board.is(which));
        }
        askDisplay(board, answers);
        for (int i = 0; i < PROBED_STEPS; i++) {
            answers.add(board.kit.step());
            answers.add(board.is(Board.A));
            answers.add(board.is(Board.PC));
            answers.add(board.is(Board.TIMER));
            answers.add(board.is(Board.STATUS));
        }
        askDisplay(board, answers);
        for (int k = 0; k < 16; k++) {
            answers.add(board.kit.key(k, false) ? 1 : 0);
        }
        for (int l = 0; l < 2; l++) {
            answers.add(board.kit.line(l, false) ? 1 : 0);
        }
    }

    private static void askDisplay(Board board, List<Integer> answers) {
        for (int i = 0; i < 16; i++) {
            answers.add(board.kit.shown(i));
        }
    }

    private static void askMemory(Board board, int from, List<Integer> answers) {
        for (int address = from; address < from + SLICE; address++) {
            answers.add(board.kit.peek(address));
        }
    }
}
