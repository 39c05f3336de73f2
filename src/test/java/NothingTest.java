import java.util.List;
import java.util.function.Consumer;
import java.util.function.Supplier;

/** Terms: ports, commands and instructions that do nothing, and calls that only ask, on boards where all can be seen. */
final class NothingTest {
    private static final int SCRATCH = 900;
    private static final List<Integer> UNTOUCHED = Busy.answers(Busy::on);

    public static void main(String[] args) {
        otherInstructions();
        otherInstructionsFetchNothing();
        conditionsThatAreNotMet();
        writingToOtherPorts();
        readingFromOtherPorts();
        otherCommandsOfTheUnit();
        otherCommandsOfTheTimer();
        masksThatChangeNothing();
        askingCalls();
        settingWhatIs();
        Check.end();
    }

    private static void same(String what, Supplier<Board> made, Supplier<Board> due) {
        Check.same(what, Busy.answers(made), Busy.answers(due));
    }

    /** Executes one instruction at SCRATCH and clears its place again. */
    private static Board execute(Board board, int... instruction) {
        int pc = board.is(Board.PC);
        board.at(SCRATCH, instruction).having(Board.PC, SCRATCH).after(1);
        return board.at(SCRATCH, 0, 0, 0).having(Board.PC, pc);
    }

    private static void otherInstructions() {
        for (int first : new int[] {0x08, 0x10, 0x18, 0x28, 0x38, 0xD9, 0xED}) {
            same("instruction " + first, () -> execute(Busy.off(), first), () -> execute(Busy.off(), 0));
            // They are instructions: behind ON, an interrupt waits for one of them as for any other.
            same("instruction " + first + " behind ON", () -> execute(Busy.on(), first), () -> execute(Busy.on(), 0));
        }
        Board board = new Board().after(1);
        Check.equal("instruction 0", board.is(Board.PC), 1);
        for (int which = 0; which <= 8; which++) {
            Check.equal("about(" + which + ") behind instruction 0", board.is(which), 0);
        }
    }

    private static void otherInstructionsFetchNothing() {
        for (int first : new int[] {0x00, 0x08, 0x10, 0x18, 0x28, 0x38, 0xD9, 0xED}) {
            Board board = Board.with(first, 0x04, 0x04);
            Check.equal("ticks of " + first, board.kit.step(), 4);
            Check.equal("PC behind " + first, board.is(Board.PC), 1);
            Check.equal("the next instruction", board.after(1).is(Board.B), 1);
        }
    }

    /** A jump or call that isn't taken fetches its bytes, and does nothing else. */
    private static void conditionsThatAreNotMet() {
        // The busy board's flags are S, K, H, P and C.
        for (int first : new int[] {0xCA, 0xD2, 0xE2, 0xF2, 0xDD, 0xCC, 0xD4, 0xE4, 0xF4}) {
            same("jump or call " + first, () -> execute(Busy.off(), first, 1, 1), () -> execute(Busy.off(), Board.IN, 77)
                .having(Board.A, 0x81));
        }
        for (int first : new int[] {0xC8, 0xD0, 0xE0, 0xF0, 0xCB}) {
            same("return or call " + first, () -> execute(Busy.off(), first), () -> execute(Busy.off(), 0));
        }
    }

    private static void writingToOtherPorts() {
        for (int v : new int[] {0x81, 192, 255, 0}) {
            List<Integer> due = Busy.answers(() -> execute(Busy.off().having(Board.A, v), 0xCA, 0, 0));
            for (int port : new int[] {1, 2, 3, 6, 7, 10, 11, 12, 16, 32, 64, 128, 132, 136, 137, 254, 255}) {
                Check.same("port " + port, Busy.answers(() -> execute(Busy.off().having(Board.A, v), Board.OUT, port)), due);
            }
        }
    }

    private static void readingFromOtherPorts() {
        List<Integer> due = Busy.answers(() -> execute(Busy.off(), 0xCA, 0, 0).having(Board.A, 255));
        for (int port : new int[] {1, 2, 3, 4, 5, 6, 7, 10, 11, 12, 16, 32, 64, 128, 132, 136, 137, 254, 255}) {
            Check.same("port " + port, Busy.answers(() -> execute(Busy.off(), Board.IN, port)), due);
        }
        // What was written to 4 and 5 is not read there.
        Check.equal("port 4", Board.with().out(4, 7).in(4), 255);
        Check.equal("port 5", Board.with().out(5, 7).in(5), 255);
    }

    private static void otherCommandsOfTheUnit() {
        for (int v = 0; v < 256; v++) {
            if (v / 32 != 4 && v / 32 != 6 && (v % 32 == 0 || v % 32 == 9 || v % 32 == 31)) {
                nothingAtPort(9, v);
            }
        }
    }

    private static void otherCommandsOfTheTimer() {
        for (int v : new int[] {0, 1, 32, 63}) {
            nothingAtPort(0, v);
        }
    }

    private static void nothingAtPort(int port, int v) {
        same("port " + port + " := " + v, () -> execute(Busy.off().having(Board.A, v), Board.OUT, port),
            () -> execute(Busy.off().having(Board.A, v), 0xCA, 0, 0));
    }

    /** Without its bits 3, 4 and 6, SET MASK does nothing. */
    private static void masksThatChangeNothing() {
        for (int a : new int[] {0, 7, 32, 128, 128 + 32 + 7}) {
            same("SET MASK of " + a, () -> execute(Busy.off().having(Board.A, a), Board.SET_MASK),
                () -> execute(Busy.off().having(Board.A, a), 0));
        }
    }

    private static void leavesAll(String what, Consumer<KeyboardKit> call) {
        Check.same(what, Busy.answers(() -> {
            Board board = Busy.on();
            call.accept(board.kit);
            return board;
        }), UNTOUCHED);
    }

    private static void askingCalls() {
        for (int which = 0; which <= 14; which++) {
            int asked = which;
            leavesAll("about(" + which + ")", kit -> kit.about(asked));
        }
        for (int i = 0; i < 16; i++) {
            int asked = i;
            leavesAll("shown(" + i + ")", kit -> kit.shown(asked));
        }
        for (int address : new int[] {0, 60, 666, 1023, 1024, -1, Integer.MIN_VALUE, Integer.MAX_VALUE}) {
            leavesAll("peek(" + address + ")", kit -> kit.peek(address));
        }
    }

    /** What already is so may be set again. */
    private static void settingWhatIs() {
        for (int which = 0; which <= 9; which++) {
            int asked = which;
            leavesAll("set(" + which + ")", kit -> kit.set(asked, kit.about(asked)));
        }
        leavesAll("key(3, false)", kit -> kit.key(3, false));
        leavesAll("key(12, true)", kit -> kit.key(12, true));
        leavesAll("line(0, true)", kit -> kit.line(0, true));
        leavesAll("poke(666, 119)", kit -> kit.poke(666, 0x77));
        // A key that is up and down between two scans was not seen to be up.
        leavesAll("key(12, false), key(12, true)", kit -> {
            kit.key(12, false);
            kit.key(12, true);
        });
    }
}
