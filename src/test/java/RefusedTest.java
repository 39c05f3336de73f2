import java.util.List;
import java.util.function.Consumer;
import java.util.function.Supplier;

/** Promises 5 to 10: calls that are refused throw what the document says and leave everything as it was. */
final class RefusedTest {
    private static final List<Supplier<Board>> STATES = List.of(Busy::on, Busy::off, Busy::halted, Board::new);
    private static final int MIN = Integer.MIN_VALUE;
    private static final int MAX = Integer.MAX_VALUE;

    public static void main(String[] args) {
        boardsAreBusy();
        changesAreSeen();
        stepsOutside0To200();
        keysOutside0To15();
        linesOutside0And1();
        aboutOutside0To14();
        shownOutside0To15();
        setOutside0To9();
        edgesAreTaken();
        Check.end();
    }

    /** What the other tests here compare must not be all 0. */
    private static void boardsAreBusy() {
        Board board = Busy.on();
        int[] due = {0x12, 0x34, 0x56, 0x78, 0x02, 0x9A, 128 + 32 + 16 + 4 + 1, 0x81, 512, 153, 1, 3, 1, 81, 6 + 16 + 32};
        for (int which = 0; which <= 14; which++) {
            Check.equal("busy about(" + which + ")", board.is(which), due[which]);
        }
        Check.equal("shown(14)", board.kit.shown(14), 11);
        Check.equal("shown(15)", board.kit.shown(15), 22);
        Check.equal("shown(0)", board.kit.shown(0), 33);
        Check.equal("OFF", Busy.off().is(Board.STATE), 0);
        Check.equal("halts", Busy.halted().is(Board.STATE), 2);
        Check.equal("7.5 is served behind the next instruction", board.after(2).is(Board.PC), 60);
    }

    /** Small changes of any part must come out in the answers. */
    private static void changesAreSeen() {
        List<Integer> due = Busy.answers(Busy::on);
        isSeen("a byte", board -> board.kit.poke(800, 1), due);
        isSeen("a flag", board -> board.kit.set(Board.FLAGS, 164), due);
        isSeen("key 3", board -> board.kit.key(3, true), due);
        isSeen("key 12", board -> board.kit.key(12, false), due);
        isSeen("key 15", board -> board.kit.key(15, true), due);
        isSeen("line 0", board -> board.kit.line(0, false), due);
        isSeen("line 1", board -> board.kit.line(1, false), due);
        isSeen("a step", board -> board.kit.step(), due);
        Check.same("no change", Busy.answers(Busy::on), due);
    }

    private static void isSeen(String what, Consumer<Board> change, List<Integer> due) {
        List<Integer> got = Busy.answers(() -> {
            Board board = Busy.on();
            change.accept(board);
            return board;
        });
        Check.equal("seen: " + what, got.equals(due), false);
    }

    private static void refused(String what, Class<? extends RuntimeException> due, Consumer<KeyboardKit> call) {
        for (Supplier<Board> state : STATES) {
            List<Integer> got = Busy.answers(() -> {
                Board board = state.get();
                Check.refuses(what, due, () -> call.accept(board.kit));
                return board;
            });
            Check.same("refused " + what, got, Busy.answers(state));
        }
    }

    private static void refusedIndex(String what, Consumer<KeyboardKit> call) {
        refused(what, IndexOutOfBoundsException.class, call);
    }

    private static void stepsOutside0To200() {
        for (int n : new int[] {-1, 201, -200, 256, MIN, MAX}) {
            refused("steps(" + n + ")", IllegalArgumentException.class, kit -> kit.steps(n));
        }
    }

    private static void keysOutside0To15() {
        for (int k : new int[] {-1, 16, 16 + 3, MIN, MAX}) {
            refusedIndex("key(" + k + ", true)", kit -> kit.key(k, true));
            refusedIndex("key(" + k + ", false)", kit -> kit.key(k, false));
        }
    }

    private static void linesOutside0And1() {
        for (int l : new int[] {-1, 2, 3, MIN, MAX}) {
            refusedIndex("line(" + l + ", true)", kit -> kit.line(l, true));
            refusedIndex("line(" + l + ", false)", kit -> kit.line(l, false));
        }
    }

    private static void aboutOutside0To14() {
        for (int which : new int[] {-1, 15, 16, MIN, MAX}) {
            refusedIndex("about(" + which + ")", kit -> kit.about(which));
        }
    }

    private static void shownOutside0To15() {
        for (int i : new int[] {-1, 16, 17, MIN, MAX}) {
            refusedIndex("shown(" + i + ")", kit -> kit.shown(i));
        }
    }

    private static void setOutside0To9() {
        for (int which : new int[] {-1, 10, 11, 12, 13, 14, 15, MIN, MAX}) {
            refusedIndex("set(" + which + ", 1)", kit -> kit.set(which, 1));
            refusedIndex("set(" + which + ", -1)", kit -> kit.set(which, -1));
        }
    }

    /** The first and the last number that each call takes. */
    private static void edgesAreTaken() {
        Board board = new Board();
        Check.equal("steps(0)", board.kit.steps(0), 0);
        Check.equal("steps(1)", board.kit.steps(1), 4);
        Check.equal("steps(199)", board.kit.steps(199), 796);
        Check.equal("steps(200)", board.kit.steps(200), 800);
        Check.equal("key(0, true)", board.kit.key(0, true), false);
        Check.equal("key(15, true)", board.kit.key(15, true), false);
        Check.equal("line(0, true)", board.kit.line(0, true), false);
        Check.equal("line(1, true)", board.kit.line(1, true), false);
        Check.equal("about(0)", board.kit.about(0), 0);
        Check.equal("about(14)", board.kit.about(14), 0);
        Check.equal("shown(0)", board.kit.shown(0), 0);
        Check.equal("shown(15)", board.kit.shown(15), 0);
        board.kit.set(0, 7);
        Check.equal("set(0, 7)", board.kit.about(0), 7);
        board.kit.set(9, 8);
        Check.equal("set(9, 8)", board.kit.about(9), 8);
        Check.same("steps(0) leaves all as it was", Busy.answers(() -> Busy.on().after(0)), Busy.answers(Busy::on));
    }
}
