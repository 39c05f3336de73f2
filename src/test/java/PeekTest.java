/** Promise 3: peek. */
final class PeekTest {
    public static void main(String[] args) {
        KeyboardKit kit = new KeyboardKit();
        for (int i = 0; i < 100; i++) {
            kit.poke(i * 10, i * 3 + 1);
        }
        for (int i = 0; i < 100; i++) {
            Check.equal("peek(" + i * 10 + ")", kit.peek(i * 10), (i * 3 + 1) % 256);
            Check.equal("peek between", kit.peek(i * 10 + 1), 0);
        }
        Check.equal("peek(1024 + 10)", kit.peek(1034), 4);
        Check.equal("peek(65536 + 20)", kit.peek(65556), 7);
        Check.equal("peek(-1024 + 20)", kit.peek(-1004), 7);
        Check.equal("peek(MIN)", kit.peek(Integer.MIN_VALUE), 1);
        Check.equal("peek(MAX)", kit.peek(Integer.MAX_VALUE), 0);
        Check.equal("peek again", kit.peek(10), 4);
        writtenByTheProcessor();
        Check.end();
    }

    private static void writtenByTheProcessor() {
        // A (200) to the byte at w = 1024 + 300: the low ten bits count.
        Board board = Board.with(0x32, 0x2C, 0x05).having(Board.A, 200).after(1);
        Check.equal("peek of what was stored", board.kit.peek(300), 200);
    }
}
