import java.util.Random;

/** Runs of calls, made up from fixed seeds, answer as the second reading of the document does. */
final class SecondReadingTest {
    private static final int RUNS = 1500;
    private static final int PROGRAM_BYTES = 160;
    private static final int MOST_CALLS = 512;
    // What the comparison at a run's end asks: 15 of about, 16 of shown, and these bytes.
    private static final int BYTES_ASKED = 64;
    private static final int CALLS_AT_END = 15 + 16 + BYTES_ASKED;
    private static final int[] PORTS = {0, 4, 5, 8, 9};

    private final Random random;
    private final String name;
    private final KeyboardKit kit = new KeyboardKit();
    private final SecondReading due = new SecondReading();
    private int calls;

    private SecondReadingTest(int seed) {
        random = new Random(seed);
        name = "run " + seed + ", call ";
    }

    public static void main(String[] args) {
        for (int seed = 0; seed < RUNS; seed++) {
            new SecondReadingTest(seed).run();
        }
        Check.end();
    }

    private void run() {
        writeProgram();
        set(8, 400 + random.nextInt(200));
        while (calls < MOST_CALLS - CALLS_AT_END) {
            callSomething();
        }
        compareAll();
        Check.equal(name + "at most 512 calls", calls <= MOST_CALLS, true);
    }

    /** Bytes at random would seldom come to a port, a mask or ON: those are put in more often. */
    private void writeProgram() {
        int at = 0;
        while (at < PROGRAM_BYTES) {
            switch (random.nextInt(10)) {
                case 0: case 1:
                    int port = PORTS[random.nextInt(PORTS.length)];
                    at = write(at, Board.LOAD_A, valueFor(port), Board.OUT, port);
                    break;
                case 2:
                    at = write(at, Board.IN, PORTS[random.nextInt(PORTS.length)]);
                    break;
                case 3:
                    at = write(at, Board.LOAD_A, random.nextInt(256), Board.SET_MASK, Board.ON);
                    break;
                case 4:
                    at = write(at, random.nextBoolean() ? Board.READ_MASK : Board.HALT);
                    break;
                default:
                    at = write(at, random.nextInt(256));
                    break;
            }
        }
    }

    private int valueFor(int port) {
        int any = random.nextInt(256);
        if (port == 0) {
            return random.nextInt(3) == 0 ? any : 192;
        }
        if (port == 5) {
            return random.nextInt(3) == 0 ? any : any & 64;
        }
        return port == 9 ? 128 + any % 128 : any;
    }

    private int write(int at, int... bytes) {
        for (int i = 0; i < bytes.length; i++) {
            poke(at + i, bytes[i]);
        }
        return at + bytes.length;
    }

    private void callSomething() {
        switch (random.nextInt(12)) {
            case 0: case 1: case 2:
                answer("step()", kit.step(), due.step());
                break;
            case 3: case 4:
                steps(random.nextInt(60));
                break;
            case 5: case 6:
                key(random.nextInt(16), random.nextInt(3) > 0);
                break;
            case 7:
                line(random.nextInt(2), random.nextBoolean());
                break;
            case 8:
                set(random.nextInt(10), random.nextInt());
                break;
            case 9:
                set(9, random.nextInt(PROGRAM_BYTES));
                break;
            case 10:
                poke(random.nextInt(), random.nextInt());
                break;
            default:
                about(random.nextInt(15));
                break;
        }
    }

    private void steps(int n) {
        int ticks = 0;
        for (int i = 0; i < n; i++) {
            ticks += due.step();
        }
        answer("steps", kit.steps(n), ticks);
    }

    private void key(int k, boolean down) {
        boolean was = due.down[k];
        due.down[k] = down;
        answer("key", kit.key(k, down) ? 1 : 0, was ? 1 : 0);
    }

    private void line(int l, boolean on) {
        boolean was = l == 0 ? due.line65 : due.serialIn;
        if (l == 0) {
            due.line65 = on;
        } else {
            due.serialIn = on;
        }
        answer("line", kit.line(l, on) ? 1 : 0, was ? 1 : 0);
    }

    private void set(int which, int v) {
        calls++;
        kit.set(which, v);
        due.set(which, v);
    }

    private void poke(int address, int v) {
        answer("poke", kit.poke(address, v), due.poke(address, v));
    }

    private void about(int which) {
        answer("about(" + which + ")", kit.about(which), due.about(which));
    }

    private void compareAll() {
        for (int which = 0; which < 15; which++) {
            about(which);
        }
        for (int i = 0; i < 16; i++) {
            answer("shown(" + i + ")", kit.shown(i), due.display[i]);
        }
        for (int i = 0; i < BYTES_ASKED; i++) {
            int address = random.nextInt();
            answer("peek(" + address + ")", kit.peek(address), due.peek(address));
        }
    }

    private void answer(String call, int got, int want) {
        calls++;
        Check.equal(name + calls + ": " + call, got, want);
    }
}
