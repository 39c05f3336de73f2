/** Terms and promise 9: the display's first and last place, and a place that goes round. */
final class DisplayEdgeTest {
    private static final int PLACE = 128;

    public static void main(String[] args) {
        beginsAtPlace0();
        goesRoundBehind15();
        everyPlaceIsSet();
        bitsOfThePlace();
        neighboursOfTheCommand();
        bytesAtTheirEdges();
        clearLeavesDisplayAndPlace();
        readingLeavesDisplayAndPlace();
        Check.end();
    }

    private static Board after(int writes) {
        Board board = Board.with();
        for (int i = 0; i < writes; i++) {
            board.out(8, 100 + i);
        }
        return board;
    }

    private static void shows(String what, Board board, int place, int v) {
        for (int i = 0; i < 16; i++) {
            Check.equal(what + ": shown(" + i + ")", board.kit.shown(i), i == place ? v : 0);
        }
    }

    private static void beginsAtPlace0() {
        shows("a new one", new Board(), 0, 0);
        shows("the first byte", after(1), 0, 100);
    }

    private static void goesRoundBehind15() {
        Board fifteen = after(15);
        Check.equal("15 bytes: the last place", fifteen.kit.shown(15), 0);
        Check.equal("15 bytes: the last byte", fifteen.kit.shown(14), 114);
        Board sixteen = after(16);
        Check.equal("16 bytes: the last place", sixteen.kit.shown(15), 115);
        Check.equal("16 bytes: the first place", sixteen.kit.shown(0), 100);
        Board seventeen = after(17);
        Check.equal("17 bytes: the last place", seventeen.kit.shown(15), 115);
        Check.equal("17 bytes: the first place", seventeen.kit.shown(0), 116);
        Check.equal("17 bytes: the second place", seventeen.kit.shown(1), 101);
        Board thirtyThree = after(33);
        Check.equal("33 bytes: the last place", thirtyThree.kit.shown(15), 131);
        Check.equal("33 bytes: the first place", thirtyThree.kit.shown(0), 132);
        Check.equal("33 bytes: the second place", thirtyThree.kit.shown(1), 117);
    }

    private static void everyPlaceIsSet() {
        for (int place = 0; place < 16; place++) {
            shows("place " + place, Board.with().out(9, PLACE + place).out(8, 77), place, 77);
            Board two = Board.with().out(9, PLACE + place).out(8, 77).out(8, 78);
            Check.equal("first of two at " + place, two.kit.shown(place), 77);
            Check.equal("second of two at " + place, two.kit.shown((place + 1) % 16), 78);
        }
    }

    private static void bitsOfThePlace() {
        shows("bit 4 and place 0", Board.with().out(9, PLACE + 16).out(8, 77), 0, 77);
        shows("bit 4 and place 1", Board.with().out(9, PLACE + 17).out(8, 77), 1, 77);
        shows("bit 4 and place 15", Board.with().out(9, PLACE + 31).out(8, 77), 15, 77);
    }

    private static void neighboursOfTheCommand() {
        for (int command : new int[] {0, 5, 31, 32, 64, 96, 127, 160, 165, 191, 192, 197, 223, 224, 229, 255}) {
            shows("command " + command, Board.with().out(9, PLACE + 3).out(9, command).out(8, 77), 3, 77);
        }
    }

    private static void bytesAtTheirEdges() {
        for (int v : new int[] {0, 1, 127, 128, 254, 255}) {
            Board board = Board.with().out(8, 99).out(9, PLACE).out(8, v);
            Check.equal("byte " + v, board.kit.shown(0), v);
            Check.equal("byte " + v + " again", board.kit.shown(0), v);
        }
    }

    private static void clearLeavesDisplayAndPlace() {
        Board board = Board.with().out(9, PLACE + 15).out(8, 77).out(9, 192 + 9).out(8, 78);
        Check.equal("the byte", board.kit.shown(15), 77);
        Check.equal("the next", board.kit.shown(0), 78);
    }

    private static void readingLeavesDisplayAndPlace() {
        Board board = Board.with().out(9, PLACE + 15).out(8, 77);
        board.in(8);
        board.in(9);
        board.out(8, 78);
        Check.equal("the byte", board.kit.shown(15), 77);
        Check.equal("the next", board.kit.shown(0), 78);
    }
}
