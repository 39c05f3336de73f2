/** An object is used for 512 calls: the last of them is answered as the first. */
final class LongUseTest {
    public static void main(String[] args) {
        manySteps();
        manyPokes();
        manyRefusedCalls();
        manyKeys();
        Check.end();
    }

    private static void manySteps() {
        KeyboardKit kit = new KeyboardKit();
        for (int i = 0; i < 511; i++) {
            Check.equal("steps(200), call " + (i + 1), kit.steps(200), 800);
        }
        // PC went round once: 511 * 200 is 36664 more than 65536.
        Check.equal("PC", kit.about(Board.PC), 511 * 200 - 65536);
    }

    private static void manyPokes() {
        KeyboardKit kit = new KeyboardKit();
        for (int i = 0; i < 512; i++) {
            Check.equal("poke, call " + (i + 1), kit.poke(7, i), i == 0 ? 0 : (i - 1) % 256);
        }
    }

    private static void manyRefusedCalls() {
        KeyboardKit kit = new KeyboardKit();
        for (int i = 0; i < 100; i++) {
            Check.refuses("steps(201)", IllegalArgumentException.class, () -> kit.steps(201));
            Check.refusesIndex("key(16, true)", () -> kit.key(16, true));
            Check.refusesIndex("line(2, true)", () -> kit.line(2, true));
            Check.refusesIndex("about(15)", () -> kit.about(15));
            Check.refusesIndex("shown(16)", () -> kit.shown(16));
        }
        Check.equal("a step then", kit.step(), 4);
        Check.equal("PC then", kit.about(Board.PC), 1);
    }

    /** Long instructions, and all keys down. */
    private static void manyKeys() {
        Board board = Board.with(0xE3, 0xE3, 0xC3, 0, 0);
        for (int k = 0; k < 16; k++) {
            board.kit.key(k, true);
        }
        int ticks = 0;
        for (int i = 0; i < 480; i++) {
            ticks += board.kit.steps(200);
        }
        // 96000 steps are 32000 rounds of two exchanges and a jump.
        Check.equal("ticks", ticks, 32000 * (16 + 16 + 10));
        Check.equal("status", board.is(Board.STATUS), 8 + 32);
    }
}
