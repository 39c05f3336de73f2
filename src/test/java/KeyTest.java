/** Promise 6: key. */
final class KeyTest {
    public static void main(String[] args) {
        for (int k = 0; k < 16; k++) {
            KeyboardKit kit = new KeyboardKit();
            Check.equal("first key(" + k + ", true)", kit.key(k, true), false);
            Check.equal("again key(" + k + ", true)", kit.key(k, true), true);
            Check.equal("key(" + k + ", false)", kit.key(k, false), true);
            Check.equal("again key(" + k + ", false)", kit.key(k, false), false);
            kit.key(k, true);
            Check.equal("another key", kit.key((k + 1) % 16, false), false);
            kit.steps(32);
            Check.equal("it was counted", kit.about(Board.STATUS), 1);
            Check.equal("it is still down", kit.key(k, true), true);
        }
        wrongNumbers();
        Check.end();
    }

    private static void wrongNumbers() {
        KeyboardKit kit = new KeyboardKit();
        int[] wrong = {-1, 16, 17, 255, Integer.MIN_VALUE, Integer.MAX_VALUE};
        for (int k : wrong) {
            Check.refusesIndex("key(" + k + ", true)", () -> kit.key(k, true));
            Check.refusesIndex("key(" + k + ", false)", () -> kit.key(k, false));
        }
        kit.steps(64);
        Check.equal("no key came from refused calls", kit.about(Board.STATUS), 0);
    }
}
