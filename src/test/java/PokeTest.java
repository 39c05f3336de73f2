/** Promise 2: poke. */
final class PokeTest {
    public static void main(String[] args) {
        KeyboardKit kit = new KeyboardKit();
        Check.equal("poke(5, 77)", kit.poke(5, 77), 0);
        Check.equal("poke(5, 78)", kit.poke(5, 78), 77);
        Check.equal("poke(5, 256 + 9)", kit.poke(5, 265), 78);
        Check.equal("poke(5, -1)", kit.poke(5, -1), 9);
        Check.equal("poke(5, 0) after -1", kit.poke(5, 0), 255);
        Check.equal("poke(0, MIN)", kit.poke(0, Integer.MIN_VALUE + 3), 0);
        Check.equal("peek(0)", kit.peek(0), 3);

        Check.equal("poke(1023, 1)", kit.poke(1023, 1), 0);
        Check.equal("poke(2047, 2) is the same place", kit.poke(2047, 2), 1);
        Check.equal("poke(-1, 3) is the same place", kit.poke(-1, 3), 2);
        Check.equal("poke(MAX, 4) is the same place", kit.poke(Integer.MAX_VALUE, 4), 3);
        Check.equal("poke(1024, 5) is place 0", kit.poke(1024, 5), 3);
        Check.equal("poke(MIN, 6) is place 0", kit.poke(Integer.MIN_VALUE, 6), 5);
        Check.equal("peek(1022) is untouched", kit.peek(1022), 0);
        Check.end();
    }
}
