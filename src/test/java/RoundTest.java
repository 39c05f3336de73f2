/** Terms: addresses of which the low ten bits count, and PC, SP and pairs that go round. */
final class RoundTest {
    // Just below, at and just above each place where an address goes round.
    private static final int[] ADDRESSES = {0, 1, 1022, 1023, 1024, 1025, 2047, 2048, 32767, 32768, 64511,
        64512, 65534, 65535};
    private static final int[] FLAG_BYTES = {0, 247};

    public static void main(String[] args) {
        for (int address : ADDRESSES) {
            bytesByCalls(address);
            bytesByBc(address);
            bytesByDe(address);
            bytesByHl(address);
            bytesByWord(address);
            pairsByWord(address);
            stackBytes(address);
            instructionAt(address);
        }
        bytesByFarCalls();
        pcBehindInstructions();
        pcPushed();
        pcBehindJumps();
        haltAtTheEnd();
        spBehindPushes();
        spBehindPops();
        spOfExchange();
        pairsCountUp();
        pairsCountDown();
        pairsComeToHl();
        Check.end();
    }

    private static Board at500(int... program) {
        return Board.with().at(500, program).having(Board.PC, 500).having(Board.SP, 400);
    }

    private static Board pair(Board board, int p, int v) {
        return p == 3 ? board.having(Board.SP, v) : board.having(2 * p, v / 256).having(2 * p + 1, v % 256);
    }

    private static int pair(Board board, int p) {
        return p == 3 ? board.is(Board.SP) : board.pair(2 * p);
    }

    private static void bytesByCalls(int address) {
        Board board = new Board();
        int place = address % 1024;
        Check.equal("poke(" + address + ", 9)", board.kit.poke(address, 9), 0);
        Check.equal("peek(" + address + ")", board.kit.peek(address), 9);
        Check.equal("peek(" + place + ")", board.kit.peek(place), 9);
        Check.equal("poke there", board.kit.poke(place, 8), 9);
        Check.equal("the byte before", board.kit.peek((place + 1023) % 1024), 0);
        Check.equal("the byte behind", board.kit.peek((place + 1) % 1024), 0);
    }

    private static void bytesByFarCalls() {
        int[] addresses = {-1, -1024, -1025, 65536, 65537, 66559, Integer.MIN_VALUE, Integer.MIN_VALUE + 1,
            Integer.MAX_VALUE};
        for (int address : addresses) {
            Board board = new Board();
            int place = Math.floorMod(address, 1024);
            Check.equal("poke(" + address + ", 9)", board.kit.poke(address, 9), 0);
            Check.equal("peek(" + place + ")", board.kit.peek(place), 9);
            Check.equal("peek(" + address + ")", board.kit.peek(address), 9);
        }
        for (int v : new int[] {-257, -256, -255, -1, 0, 255, 256, 257, Integer.MIN_VALUE, Integer.MAX_VALUE}) {
            Board board = new Board();
            board.kit.poke(3, v);
            Check.equal("poked " + v, board.kit.peek(3), Math.floorMod(v, 256));
            Check.equal("the one that was there", board.kit.poke(3, 0), Math.floorMod(v, 256));
        }
    }

    private static void bytesByBc(int address) {
        int place = address % 1024;
        Check.equal("A to BC " + address, pair(at500(0x02).having(Board.A, 9), 0, address).after(1).kit.peek(place), 9);
        Check.equal("A from BC " + address, pair(at500(0x0A).at(place, 9), 0, address).after(1).is(Board.A), 9);
    }

    private static void bytesByDe(int address) {
        int place = address % 1024;
        Check.equal("A to DE " + address, pair(at500(0x12).having(Board.A, 9), 1, address).after(1).kit.peek(place), 9);
        Check.equal("A from DE " + address, pair(at500(0x1A).at(place, 9), 1, address).after(1).is(Board.A), 9);
    }

    private static void bytesByHl(int address) {
        int place = address % 1024;
        Check.equal("B to M " + address, pair(at500(0x70).having(Board.B, 9), 2, address).after(1).kit.peek(place), 9);
        Check.equal("n to M " + address, pair(at500(0x36, 9), 2, address).after(1).kit.peek(place), 9);
        Check.equal("B from M " + address, pair(at500(0x46).at(place, 9), 2, address).after(1).is(Board.B), 9);
        Check.equal("sum with M " + address, pair(at500(0x86).at(place, 9), 2, address).after(1).is(Board.A), 9);
        Check.equal("M 1 more " + address, pair(at500(0x34).at(place, 9), 2, address).after(1).kit.peek(place), 10);
        Check.equal("M 1 less " + address, pair(at500(0x35).at(place, 9), 2, address).after(1).kit.peek(place), 8);
    }

    private static void bytesByWord(int address) {
        int place = address % 1024;
        Board stored = at500(0x32, address % 256, address / 256).having(Board.A, 9).after(1);
        Check.equal("A to " + address, stored.kit.peek(place), 9);
        Board loaded = at500(0x3A, address % 256, address / 256).at(place, 9).after(1);
        Check.equal("A from " + address, loaded.is(Board.A), 9);
    }

    private static void pairsByWord(int address) {
        int place = address % 1024;
        int next = (address + 1) % 1024;
        Board stored = pair(at500(0x22, address % 256, address / 256), 2, 0x0708).after(1);
        Check.equal("L to " + address, stored.kit.peek(place), 8);
        Check.equal("H behind " + address, stored.kit.peek(next), 7);
        Board loaded = at500(0x2A, address % 256, address / 256).at(place, 8).at(next, 7).after(1);
        Check.equal("HL from " + address, loaded.pair(Board.H), 0x0708);
    }

    private static void stackBytes(int sp) {
        int low = Math.floorMod(sp - 2, 1024);
        int high = Math.floorMod(sp - 1, 1024);
        Board pushed = pair(at500(0xC5).having(Board.SP, sp), 0, 0x0708).after(1);
        Check.equal("low byte below " + sp, pushed.kit.peek(low), 8);
        Check.equal("high byte below " + sp, pushed.kit.peek(high), 7);
        Board popped = at500(0xC1).at(sp, 8).at(sp + 1, 7).having(Board.SP, sp).after(1);
        Check.equal("BC from " + sp, popped.pair(Board.B), 0x0708);
    }

    private static void instructionAt(int pc) {
        Board board = new Board().at(pc, 0x06, 9).having(Board.PC, pc).after(1);
        Check.equal("B by the instruction at " + pc, board.is(Board.B), 9);
        Check.equal("PC behind that", board.is(Board.PC), (pc + 2) % 65536);
    }

    /** Instructions of one, two and three bytes that end just before, at and just behind the end. */
    private static void pcBehindInstructions() {
        int[][] kinds = {{0x00}, {0x28}, {0x80}, {0x06, 1}, {0xC6, 1}, {0xD3, 77}, {0xDB, 77}, {0x01, 1, 2}, {0x32, 0, 2},
            {0xC2, 0, 2}, {0xC4, 0, 2}, {0xFD, 0, 2}};
        for (int[] kind : kinds) {
            for (int behind = 65534; behind <= 65538; behind++) {
                int pc = behind - kind.length;
                // Z is 1 and K 0: none of the jumps and calls is taken.
                Board board = Board.with().at(pc, kind).having(Board.FLAGS, 64).having(Board.PC, pc).after(1);
                Check.equal("PC behind " + kind[0] + " at " + pc, board.is(Board.PC), behind % 65536);
            }
        }
        Board board = new Board().having(Board.PC, 65534);
        Check.equal("PC below the end", board.after(1).is(Board.PC), 65535);
        Check.equal("PC at the end", board.after(1).is(Board.PC), 0);
        Check.equal("PC behind the end", board.after(1).is(Board.PC), 1);
        Board within = new Board().having(Board.PC, 1023);
        Check.equal("PC behind the last byte of memory", within.after(1).is(Board.PC), 1024);
    }

    private static void pcPushed() {
        int[][] kinds = {{0xC7}, {0xFF}, {0xCB}, {0xCD, 0, 2}, {0xCC, 0, 2}};
        for (int[] kind : kinds) {
            for (int behind = 65534; behind <= 65538; behind++) {
                int pc = behind - kind.length;
                Board board = Board.with().at(pc, kind).having(Board.FLAGS, 64 + 2).having(Board.PC, pc).after(1);
                int pushed = board.kit.peek(511) * 256 + board.kit.peek(510);
                Check.equal("PC pushed by " + kind[0] + " at " + pc, pushed, behind % 65536);
            }
        }
        for (int behind = 65534; behind <= 65537; behind++) {
            Board board = Board.with(Board.SET_MASK).having(Board.A, 8).after(1);
            board.at(behind - 2, Board.ON, Board.NOP).having(Board.PC, behind - 2).after(2);
            board.kit.line(0, true);
            board.after(1);
            int pushed = board.kit.peek(511) * 256 + board.kit.peek(510);
            Check.equal("PC pushed by an interrupt's call", pushed, behind % 65536);
        }
    }

    private static void pcBehindJumps() {
        for (int target : new int[] {0, 1, 1023, 1024, 65534, 65535}) {
            int low = target % 256;
            int high = target / 256;
            Check.equal("jump", at500(0xC3, low, high).after(1).is(Board.PC), target);
            Check.equal("jump if", at500(0xC2, low, high).after(1).is(Board.PC), target);
            Check.equal("jump by K", at500(0xDD, low, high).after(1).is(Board.PC), target);
            Check.equal("call", at500(0xCD, low, high).after(1).is(Board.PC), target);
            Check.equal("return", at500(0xC9).at(400, low, high).after(1).is(Board.PC), target);
            Check.equal("PC becomes HL", pair(at500(0xE9), 2, target).after(1).is(Board.PC), target);
        }
    }

    private static void haltAtTheEnd() {
        Board board = Board.with(Board.SET_MASK).having(Board.A, 8).after(1);
        board.at(65534, Board.ON, Board.HALT).having(Board.PC, 65534).after(9);
        Check.equal("PC behind HALT", board.is(Board.PC), 0);
        board.kit.line(0, true);
        board.after(1);
        Check.equal("pushed", board.kit.peek(511) * 256 + board.kit.peek(510), 0);
    }

    private static void spBehindPushes() {
        int[][] kinds = {{0xC5}, {0xD5}, {0xE5}, {0xF5}, {0xCD, 0, 2}, {0xCC, 0, 2}, {0xC7}, {0xCB}};
        for (int[] kind : kinds) {
            for (int sp = 0; sp <= 4; sp++) {
                Board board = at500(kind).having(Board.FLAGS, 64 + 2).having(Board.SP, sp).after(1);
                Check.equal("SP " + sp + " behind " + kind[0], board.is(Board.SP), (sp + 65534) % 65536);
            }
        }
        for (int sp = 0; sp <= 4; sp++) {
            Board board = at500(Board.SET_MASK, Board.ON, Board.NOP).having(Board.A, 8).having(Board.SP, sp);
            board.kit.line(0, true);
            Check.equal("SP " + sp + " behind an interrupt's call", board.after(4).is(Board.SP), (sp + 65534) % 65536);
        }
    }

    private static void spBehindPops() {
        for (int instruction : new int[] {0xC1, 0xD1, 0xE1, 0xF1, 0xC9, 0xC0}) {
            for (int sp = 65532; sp <= 65535; sp++) {
                Board board = at500(instruction).having(Board.SP, sp).after(1);
                Check.equal("SP " + sp + " behind " + instruction, board.is(Board.SP), (sp + 2) % 65536);
            }
        }
    }

    private static void spOfExchange() {
        for (int sp : new int[] {0, 1022, 1023, 1024, 65534, 65535}) {
            Board board = pair(at500(0xE3).at(sp, 8).at(sp + 1, 7).having(Board.SP, sp), 2, 0x0506).after(1);
            Check.equal("HL from SP " + sp, board.pair(Board.H), 0x0708);
            Check.equal("L to SP " + sp, board.kit.peek(sp), 6);
            Check.equal("H behind SP " + sp, board.kit.peek(sp + 1), 5);
            Check.equal("SP stays", board.is(Board.SP), sp);
        }
    }

    private static void counted(int instruction, int p, int v, int due, boolean k) {
        for (int flags : FLAG_BYTES) {
            Board board = pair(at500(instruction).having(Board.FLAGS, flags), p, v).after(1);
            Check.equal("pair " + p + " of " + v, pair(board, p), due);
            Check.equal("its flags", board.is(Board.FLAGS), (flags & ~32) + (k ? 32 : 0));
        }
    }

    private static void pairsCountUp() {
        for (int p = 0; p < 4; p++) {
            counted(16 * p + 3, p, 65534, 65535, false);
            counted(16 * p + 3, p, 65535, 0, true);
            counted(16 * p + 3, p, 0, 1, false);
            counted(16 * p + 3, p, 255, 256, false);
            counted(16 * p + 3, p, 0xFEFF, 0xFF00, false);
        }
    }

    private static void pairsCountDown() {
        for (int p = 0; p < 4; p++) {
            counted(16 * p + 11, p, 1, 0, false);
            counted(16 * p + 11, p, 0, 65535, true);
            counted(16 * p + 11, p, 65535, 65534, false);
            counted(16 * p + 11, p, 256, 255, false);
            counted(16 * p + 11, p, 0xFF00, 0xFEFF, false);
        }
    }

    private static void comes(int p, int v, int hl, int due, int c) {
        for (int flags : FLAG_BYTES) {
            Board board = pair(pair(at500(16 * p + 9).having(Board.FLAGS, flags), 2, hl), p, v).after(1);
            Check.equal("pair " + p + " of " + v + " to HL " + hl, board.pair(Board.H), due);
            Check.equal("its flags", board.is(Board.FLAGS), (flags & ~1) + c);
        }
    }

    private static void pairsComeToHl() {
        for (int p : new int[] {0, 1, 3}) {
            comes(p, 1, 65534, 65535, 0);
            comes(p, 1, 65535, 0, 1);
            comes(p, 2, 65535, 1, 1);
            comes(p, 0, 65535, 65535, 0);
            comes(p, 65535, 0, 65535, 0);
            comes(p, 65535, 65535, 65534, 1);
            comes(p, 255, 1, 256, 0);
        }
        comes(2, 32767, 32767, 65534, 0);
        comes(2, 32768, 32768, 0, 1);
        comes(2, 32769, 32769, 2, 1);
    }
}
