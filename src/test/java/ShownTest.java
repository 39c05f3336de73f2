/** Promise 9: shown, and how bytes come into the display. */
final class ShownTest {
    public static void main(String[] args) {
        placesGoRound();
        placeIsSet();
        otherCommandsLeaveThePlace();
        wrongNumbers();
        Check.end();
    }

    private static void placesGoRound() {
        Board board = Board.with();
        for (int i = 0; i < 18; i++) {
            board.out(8, 200 + i);
        }
        for (int i = 0; i < 16; i++) {
            Check.equal("shown(" + i + ")", board.kit.shown(i), i < 2 ? 216 + i : 200 + i);
        }
    }

    private static void placeIsSet() {
        for (int place = 0; place < 16; place++) {
            Board board = Board.with().out(9, 128 + place).out(8, 255).out(8, 254);
            for (int i = 0; i < 16; i++) {
                int due = i == place ? 255 : i == (place + 1) % 16 ? 254 : 0;
                Check.equal("place " + place + ": shown(" + i + ")", board.kit.shown(i), due);
            }
        }
        Check.equal("bit 4 doesn't count", Board.with().out(9, 128 + 16 + 3).out(8, 7).kit.shown(3), 7);
    }

    private static void otherCommandsLeaveThePlace() {
        for (int kind = 0; kind < 8; kind++) {
            if (kind != 4) {
                Board board = Board.with().out(9, 128 + 5).out(8, 1).out(9, 32 * kind + 9).out(8, 2);
                Check.equal("shown(5), kind " + kind, board.kit.shown(5), 1);
                Check.equal("shown(6), kind " + kind, board.kit.shown(6), 2);
            }
        }
    }

    private static void wrongNumbers() {
        KeyboardKit kit = new KeyboardKit();
        int[] wrong = {-1, 16, 100, Integer.MIN_VALUE, Integer.MAX_VALUE};
        for (int i : wrong) {
            Check.refusesIndex("shown(" + i + ")", () -> kit.shown(i));
        }
    }
}
