/** Promise 1: a new object. */
final class NewObjectTest {
    public static void main(String[] args) {
        stateIsZero();
        nothingIsWanted();
        timerHasLengthTwoAndEndsOnce();
        noKeyIsDown();
        Check.end();
    }

    private static void stateIsZero() {
        KeyboardKit kit = new KeyboardKit();
        for (int which = 0; which <= 14; which++) {
            Check.equal("new about(" + which + ")", kit.about(which), which == Board.MASKS ? 7 : 0);
        }
        for (int i = 0; i < 16; i++) {
            Check.equal("new shown(" + i + ")", kit.shown(i), 0);
        }
        KeyboardKit other = new KeyboardKit();
        int sum = 0;
        for (int address = 0; address < 500; address++) {
            sum += other.peek(address);
        }
        KeyboardKit third = new KeyboardKit();
        for (int address = 500; address < 1000; address++) {
            sum += third.peek(address);
        }
        for (int address = 1000; address < 1024; address++) {
            sum += new KeyboardKit().peek(address);
        }
        Check.equal("sum of a new memory", sum, 0);
    }

    private static void nothingIsWanted() {
        Check.equal("READ MASK of a new object", Board.with(Board.READ_MASK).after(1).is(Board.A), 7);
        Board serial = Board.with();
        Check.equal("line 0 of a new object", serial.kit.line(0, false), false);
        Check.equal("line 1 of a new object", serial.kit.line(1, false), false);
        Check.equal("timer's port of a new object", Board.with().in(0), 0);
    }

    private static void timerHasLengthTwoAndEndsOnce() {
        Board board = Board.with().out(0, 192);
        Check.equal("left behind the end", board.is(Board.TIMER), 0);
        Check.equal("it ended", board.in(0), 64);
        board.wait(8);
        Check.equal("it did not go on", board.in(0), 0);
    }

    private static void noKeyIsDown() {
        KeyboardKit kit = new KeyboardKit();
        for (int k = 0; k < 16; k++) {
            Check.equal("new key(" + k + ")", kit.key(k, false), false);
        }
        kit.steps(200);
        Check.equal("status after scans", kit.about(Board.STATUS), 0);
    }
}
