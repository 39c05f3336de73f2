/** A small computer on one board: a processor, a timer, and a keyboard and display unit. */
public final class KeyboardKit {
    private static final int FLAG_S = 128;
    private static final int FLAG_Z = 64;
    private static final int FLAG_K = 32;
    private static final int FLAG_H = 16;
    private static final int FLAG_P = 4;
    private static final int FLAG_V = 2;
    private static final int FLAG_C = 1;
    private static final int ALL_FLAGS = 247;

    private static final int REGISTER_H = 4;
    private static final int REGISTER_L = 5;
    private static final int REGISTER_M = 6;
    private static final int REGISTER_A = 7;
    private static final int PAIR_BC = 0;
    private static final int PAIR_DE = 1;
    private static final int PAIR_HL = 2;
    private static final int PAIR_SP = 3;

    // Of an address's 16 bits these count.
    private static final int ADDRESS_BITS = 1023;
    private static final int MOST_STEPS = 200;
    private static final int KEYS = 16;
    private static final int DISPLAY_BYTES = 16;

    private final int[] memory;
    private final Timer timer;
    private final KeyUnit unit;
    private final Interrupts interrupts;
    private final Processor processor;

    public KeyboardKit() {
        memory = new int[ADDRESS_BITS + 1];
        timer = new Timer();
        unit = new KeyUnit();
        interrupts = new Interrupts();
        processor = new Processor(memory, timer, unit, interrupts);
    }

    public int poke(int address, int v) {
        int old = memory[address & ADDRESS_BITS];
        memory[address & ADDRESS_BITS] = v & 255;
        return old;
    }

    public int peek(int address) {
        return memory[address & ADDRESS_BITS];
    }

    public int step() {
        return processor.advance();
    }

    public int steps(int n) throws IllegalArgumentException {
        if (n < 0 || n > MOST_STEPS) {
            throw new IllegalArgumentException("steps are 0 .. 200");
        }
        int ticks = 0;
        for (int i = 0; i < n; i++) {
            ticks += processor.advance();
        }
        return ticks;
    }

    public boolean key(int k, boolean down) throws IndexOutOfBoundsException {
        if (k < 0 || k >= KEYS) {
            throw new IndexOutOfBoundsException("keys are 0 .. 15");
        }
        boolean old = unit.down[k];
        unit.down[k] = down;
        return old;
    }

    public boolean line(int l, boolean on) throws IndexOutOfBoundsException {
        if (l < 0 || l > 1) {
            throw new IndexOutOfBoundsException("lines are 0 and 1");
        }
        boolean old;
        if (l == 0) {
            old = interrupts.line65;
            interrupts.line65 = on;
        } else {
            old = interrupts.serialIn;
            interrupts.serialIn = on;
        }
        return old;
    }

    public int about(int which) throws IndexOutOfBoundsException {
        switch (which) {
            case 0: case 1: case 2: case 3: case 4: case 5: case 7:
                return processor.registers[which];
            case 6:
                return processor.flags.all;
            case 8:
                return processor.sp;
            case 9:
                return processor.pc;
            case 10:
                return (interrupts.on ? 1 : 0) + (processor.halts ? 2 : 0);
            case 11:
                return interrupts.masks;
            case 12:
                return interrupts.serialOut ? 1 : 0;
            case 13:
                return timer.left;
            case 14:
                return unit.status();
            default:
                throw new IndexOutOfBoundsException("about takes 0 .. 14");
        }
    }

    public int shown(int i) throws IndexOutOfBoundsException {
        if (i < 0 || i >= DISPLAY_BYTES) {
            throw new IndexOutOfBoundsException("the display has 0 .. 15");
        }
        return unit.display[i];
    }

    public void set(int which, int v) throws IndexOutOfBoundsException {
        switch (which) {
            case 0: case 1: case 2: case 3: case 4: case 5: case 7:
                processor.registers[which] = v & 255;
                break;
            case 6:
                processor.flags.all = v & ALL_FLAGS;
                break;
            case 8:
                processor.sp = v & 65535;
                break;
            case 9:
                processor.pc = v & 65535;
                break;
            default:
                throw new IndexOutOfBoundsException("set takes 0 .. 9");
        }
    }

    private static final class Timer {
        private static final int STOP = 1;
        private static final int STOP_AT_END = 2;
        private static final int START = 3;

        // Both 0 in the beginning: a length below 2, which counts as 2.
        private int lowByte;
        private int highByte;
        // The bytes may be written while it runs; what it started with must outlive that.
        private int length;
        private boolean goesOn;
        private boolean stopsAtEnd;
        private boolean endedSinceRead;
        // Above 0 just when it runs.
        private int left;

        void command(int v) {
            switch (v >> 6 & 3) {
                case STOP:
                    left = 0;
                    break;
                case STOP_AT_END:
                    // Needs no look at whether it runs: only a start makes it end again, and that clears this.
                    stopsAtEnd = true;
                    break;
                case START:
                    length = Math.max(2, (highByte & 63) << 8 | lowByte);
                    goesOn = (highByte & 64) != 0;
                    stopsAtEnd = false;
                    left = length;
                    break;
                default:
                    break;
            }
        }

        int takeEnded() {
            int answer = endedSinceRead ? 64 : 0;
            endedSinceRead = false;
            return answer;
        }

        /** One tick goes by: whether the timer ends in it. */
        boolean tick() {
            if (left == 0) {
                return false;
            }
            left--;
            if (left > 0) {
                return false;
            }
            endedSinceRead = true;
            if (goesOn && !stopsAtEnd) {
                left = length;
            }
            return true;
        }
    }

    private static final class KeyUnit {
        private static final int QUEUE_SIZE = 8;
        private static final int SCAN_TICKS = 64;
        private static final int SET_PLACE = 4;
        private static final int CLEAR = 6;

        private final boolean[] down = new boolean[KEYS];
        private final boolean[] downBefore = new boolean[KEYS];
        private final boolean[] counted = new boolean[KEYS];
        private final int[] queue = new int[QUEUE_SIZE];
        private int queueStart;
        private int queued;
        private boolean underrun;
        private boolean overrun;
        private final int[] display = new int[DISPLAY_BYTES];
        private int place;
        private int ticksToScan = SCAN_TICKS;

        int takeKey() {
            if (queued == 0) {
                underrun = true;
                return 0;
            }
            int first = queue[queueStart];
            queueStart = (queueStart + 1) % QUEUE_SIZE;
            queued--;
            return first;
        }

        void show(int v) {
            display[place] = v;
            place = (place + 1) % DISPLAY_BYTES;
        }

        void command(int v) {
            int kind = v >> 5 & 7;
            if (kind == SET_PLACE) {
                place = v & 15;
            } else if (kind == CLEAR) {
                clear();
            }
        }

        private void clear() {
            queued = 0;
            underrun = false;
            overrun = false;
            for (int k = 0; k < KEYS; k++) {
                if (down[k]) {
                    downBefore[k] = false;
                    counted[k] = false;
                }
            }
        }

        int status() {
            return (queued & 7) + (queued == QUEUE_SIZE ? 8 : 0) + (underrun ? 16 : 0) + (overrun ? 32 : 0);
        }

        void tick() {
            ticksToScan--;
            if (ticksToScan == 0) {
                ticksToScan = SCAN_TICKS;
                for (int k = 0; k < KEYS; k++) {
                    scan(k);
                }
            }
        }

        private void scan(int k) {
            if (!down[k]) {
                counted[k] = false;
            } else if (downBefore[k] && !counted[k]) {
                counted[k] = true;
                enqueue(k);
            }
            downBefore[k] = down[k];
        }

        private void enqueue(int k) {
            if (queued < QUEUE_SIZE) {
                queue[(queueStart + queued) % QUEUE_SIZE] = k;
                queued++;
            } else {
                overrun = true;
            }
        }
    }

    private static final class Interrupts {
        private static final int BIT_55 = 1;
        private static final int BIT_65 = 2;
        private static final int BIT_75 = 4;

        private boolean on;
        // Set by the instruction that turns them ON, until the next instruction begins.
        private boolean heldBack;
        private int masks = BIT_55 | BIT_65 | BIT_75;
        private boolean timerEnded;
        private boolean line65;
        private boolean serialIn;
        private boolean serialOut;

        void turnOn() {
            on = true;
            heldBack = true;
        }

        private int wanted(boolean keysQueued) {
            return (keysQueued ? BIT_55 : 0) | (line65 ? BIT_65 : 0) | (timerEnded ? BIT_75 : 0);
        }

        /** Serves the first one that is due: the address that it calls, or 0 if none is due. */
        int serve(boolean keysQueued) {
            int due = on && !heldBack ? wanted(keysQueued) & ~masks : 0;
            if (due == 0) {
                return 0;
            }
            on = false;
            if ((due & BIT_75) != 0) {
                timerEnded = false;
                return 60;
            }
            return (due & BIT_65) != 0 ? 52 : 44;
        }

        void setMask(int a) {
            if ((a & 8) != 0) {
                masks = a & 7;
            }
            if ((a & 16) != 0) {
                timerEnded = false;
            }
            if ((a & 64) != 0) {
                serialOut = (a & 128) != 0;
            }
        }

        int readMask(boolean keysQueued) {
            return masks | (on ? 8 : 0) | wanted(keysQueued) << 4 | (serialIn ? 128 : 0);
        }
    }

    private static final class Flags {
        private int all;

        boolean has(int flag) {
            return (all & flag) != 0;
        }

        int carry() {
            return all & FLAG_C;
        }

        void put(int flag, boolean on) {
            all = on ? all | flag : all & ~flag;
        }

        boolean meets(int condition) {
            boolean wanted = (condition & 1) == 1;
            switch (condition >> 1) {
                case 0:
                    return has(FLAG_Z) == wanted;
                case 1:
                    return has(FLAG_C) == wanted;
                case 2:
                    return has(FLAG_P) == wanted;
                default:
                    return has(FLAG_S) == wanted;
            }
        }

        int sum(int a, int b, int carry) {
            int whole = a + b + carry;
            int low = whole & 255;
            boolean negative = low > 127;
            boolean overflow = ((a ^ low) & (b ^ low) & 128) != 0;
            all = (negative ? FLAG_S : 0)
                    | (low == 0 ? FLAG_Z : 0)
                    | (overflow != negative ? FLAG_K : 0)
                    | ((a & 15) + (b & 15) + carry > 15 ? FLAG_H : 0)
                    | (Integer.bitCount(low) % 2 == 0 ? FLAG_P : 0)
                    | (overflow ? FLAG_V : 0)
                    | (whole > 255 ? FLAG_C : 0);
            return low;
        }

        int difference(int a, int b, int borrow) {
            int low = sum(a, 255 - b, 1 - borrow);
            all ^= FLAG_C;
            return low;
        }

        int bitwise(int result, boolean half) {
            // A sum with 0 has C and V 0, and K as S: what these operations are to leave.
            sum(result, 0, 0);
            put(FLAG_H, half);
            return result;
        }

        int decimal(int a) {
            boolean six = (a & 15) > 9 || has(FLAG_H);
            boolean ninetySix = a > 153 || has(FLAG_C);
            int low = sum(a, (six ? 6 : 0) + (ninetySix ? 96 : 0), 0);
            // Without the 96 the sum stays below 256, and a C that was 1 has brought the 96.
            put(FLAG_C, ninetySix);
            return low;
        }
    }

    private static final class Ports {
        private final Timer timer;
        private final KeyUnit unit;

        Ports(Timer timer, KeyUnit unit) {
            this.timer = timer;
            this.unit = unit;
        }

        int read(int port) {
            switch (port) {
                case 0:
                    return timer.takeEnded();
                case 8:
                    return unit.takeKey();
                case 9:
                    return unit.status();
                default:
                    return 255;
            }
        }

        void write(int port, int v) {
            switch (port) {
                case 0:
                    timer.command(v);
                    break;
                case 4:
                    timer.lowByte = v;
                    break;
                case 5:
                    timer.highByte = v;
                    break;
                case 8:
                    unit.show(v);
                    break;
                case 9:
                    unit.command(v);
                    break;
                default:
                    break;
            }
        }
    }

    private static final class Processor {
        private static final int FIRST_TICKS = 4;
        private static final int BYTE_TICKS = 3;
        private static final int OVERFLOW_CALL = 64;

        private final int[] memory;
        private final Timer timer;
        private final KeyUnit unit;
        private final Interrupts interrupts;
        private final Ports ports;
        // The place of M stays unused: M is a byte of memory.
        private final int[] registers = new int[8];
        private final Flags flags = new Flags();
        private int sp;
        private int pc;
        private boolean halts;
        private int ticks;

        Processor(int[] memory, Timer timer, KeyUnit unit, Interrupts interrupts) {
            this.memory = memory;
            this.timer = timer;
            this.unit = unit;
            this.interrupts = interrupts;
            this.ports = new Ports(timer, unit);
        }

        /** An instruction, an interrupt's call or a wait in HALT: its ticks. */
        int advance() {
            ticks = FIRST_TICKS;
            int address = interrupts.serve(unit.queued > 0);
            if (address != 0) {
                halts = false;
                call(address);
            } else if (!halts) {
                interrupts.heldBack = false;
                int instruction = memory[pc & ADDRESS_BITS];
                pc = pc + 1 & 65535;
                execute(instruction);
            }
            passTicks(ticks);
            return ticks;
        }

        private void passTicks(int n) {
            for (int i = 0; i < n; i++) {
                if (timer.tick()) {
                    interrupts.timerEnded = true;
                }
                unit.tick();
            }
        }

        private void execute(int instruction) {
            int y = instruction >> 3 & 7;
            int z = instruction & 7;
            switch (instruction >> 6) {
                case 0:
                    executeGroup0(y, z);
                    break;
                case 1:
                    move(y, z);
                    break;
                case 2:
                    operate(y, register(z));
                    break;
                default:
                    executeGroup3(y, z);
                    break;
            }
        }

        private void executeGroup0(int y, int z) {
            switch (z) {
                case 0:
                    useMask(y);
                    break;
                case 1:
                    loadOrAddPair(y);
                    break;
                case 2:
                    moveByAddress(y);
                    break;
                case 3:
                    countPair(y);
                    break;
                case 4:
                    countUp(y);
                    break;
                case 5:
                    countDown(y);
                    break;
                case 6:
                    putRegister(y, fetch());
                    break;
                default:
                    changeAccumulator(y);
                    break;
            }
        }

        private void executeGroup3(int y, int z) {
            switch (z) {
                case 0:
                    if (flags.meets(y)) {
                        pc = pop();
                    }
                    break;
                case 1:
                    popOrReturn(y);
                    break;
                case 2:
                    jumpIf(flags.meets(y));
                    break;
                case 3:
                    executeSpecial(y);
                    break;
                case 4:
                    callIf(flags.meets(y));
                    break;
                case 5:
                    pushOrGo(y);
                    break;
                case 6:
                    operate(y, fetch());
                    break;
                default:
                    call(8 * y);
                    break;
            }
        }

        private void useMask(int y) {
            if (y == 4) {
                registers[REGISTER_A] = interrupts.readMask(unit.queued > 0);
            } else if (y == 6) {
                interrupts.setMask(registers[REGISTER_A]);
            }
        }

        private void loadOrAddPair(int y) {
            if (y % 2 == 0) {
                putPair(y / 2, fetchWord());
            } else {
                int whole = pair(PAIR_HL) + pair(y / 2);
                putPair(PAIR_HL, whole);
                flags.put(FLAG_C, whole > 65535);
            }
        }

        private void moveByAddress(int y) {
            switch (y) {
                case 0:
                    write(pair(PAIR_BC), registers[REGISTER_A]);
                    break;
                case 1:
                    registers[REGISTER_A] = read(pair(PAIR_BC));
                    break;
                case 2:
                    write(pair(PAIR_DE), registers[REGISTER_A]);
                    break;
                case 3:
                    registers[REGISTER_A] = read(pair(PAIR_DE));
                    break;
                case 4:
                    writeWord(fetchWord(), pair(PAIR_HL));
                    break;
                case 5:
                    putPair(PAIR_HL, readWord(fetchWord()));
                    break;
                case 6:
                    write(fetchWord(), registers[REGISTER_A]);
                    break;
                default:
                    registers[REGISTER_A] = read(fetchWord());
                    break;
            }
        }

        private void countPair(int y) {
            boolean up = y % 2 == 0;
            putPair(y / 2, pair(y / 2) + (up ? 1 : -1));
            flags.put(FLAG_K, pair(y / 2) == (up ? 0 : 65535));
        }

        private void countUp(int r) {
            boolean carry = flags.has(FLAG_C);
            putRegister(r, flags.sum(register(r), 1, 0));
            flags.put(FLAG_C, carry);
        }

        private void countDown(int r) {
            boolean carry = flags.has(FLAG_C);
            putRegister(r, flags.difference(register(r), 1, 0));
            flags.put(FLAG_C, carry);
        }

        private void changeAccumulator(int y) {
            int a = registers[REGISTER_A];
            switch (y) {
                case 0:
                    turnLeft(a, a >> 7);
                    break;
                case 1:
                    turnRight(a, a & 1);
                    break;
                case 2:
                    turnLeft(a, flags.carry());
                    break;
                case 3:
                    turnRight(a, flags.carry());
                    break;
                case 4:
                    registers[REGISTER_A] = flags.decimal(a);
                    break;
                case 5:
                    registers[REGISTER_A] = 255 - a;
                    break;
                case 6:
                    flags.put(FLAG_C, true);
                    break;
                default:
                    flags.put(FLAG_C, !flags.has(FLAG_C));
                    break;
            }
        }

        private void turnLeft(int a, int comesIn) {
            registers[REGISTER_A] = a << 1 & 255 | comesIn;
            flags.put(FLAG_C, a > 127);
        }

        private void turnRight(int a, int comesIn) {
            registers[REGISTER_A] = a >> 1 | comesIn << 7;
            flags.put(FLAG_C, (a & 1) == 1);
        }

        private void move(int to, int from) {
            if (to == REGISTER_M && from == REGISTER_M) {
                halts = true;
            } else {
                putRegister(to, register(from));
            }
        }

        private void operate(int operation, int b) {
            int a = registers[REGISTER_A];
            switch (operation) {
                case 0:
                    registers[REGISTER_A] = flags.sum(a, b, 0);
                    break;
                case 1:
                    registers[REGISTER_A] = flags.sum(a, b, flags.carry());
                    break;
                case 2:
                    registers[REGISTER_A] = flags.difference(a, b, 0);
                    break;
                case 3:
                    registers[REGISTER_A] = flags.difference(a, b, flags.carry());
                    break;
                case 4:
                    registers[REGISTER_A] = flags.bitwise(a & b, true);
                    break;
                case 5:
                    registers[REGISTER_A] = flags.bitwise(a ^ b, false);
                    break;
                case 6:
                    registers[REGISTER_A] = flags.bitwise(a | b, false);
                    break;
                default:
                    flags.difference(a, b, 0);
                    break;
            }
        }

        private void popOrReturn(int y) {
            switch (y) {
                case 0: case 2: case 4:
                    putPair(y / 2, pop());
                    break;
                case 6:
                    popAccumulatorAndFlags();
                    break;
                case 1:
                    pc = pop();
                    break;
                case 5:
                    pc = pair(PAIR_HL);
                    break;
                case 7:
                    sp = pair(PAIR_HL);
                    break;
                default:
                    break;
            }
        }

        private void popAccumulatorAndFlags() {
            int both = pop();
            registers[REGISTER_A] = both >> 8;
            flags.all = both & ALL_FLAGS;
        }

        private void executeSpecial(int y) {
            switch (y) {
                case 0:
                    jumpIf(true);
                    break;
                case 1:
                    if (flags.has(FLAG_V)) {
                        call(OVERFLOW_CALL);
                    }
                    break;
                case 2:
                    ports.write(fetch(), registers[REGISTER_A]);
                    ticks += BYTE_TICKS;
                    break;
                case 3:
                    registers[REGISTER_A] = ports.read(fetch());
                    ticks += BYTE_TICKS;
                    break;
                case 4:
                    exchangeWithStack();
                    break;
                case 5:
                    exchangeWithDe();
                    break;
                case 6:
                    interrupts.on = false;
                    break;
                default:
                    interrupts.turnOn();
                    break;
            }
        }

        private void exchangeWithStack() {
            int top = readWord(sp);
            writeWord(sp, pair(PAIR_HL));
            putPair(PAIR_HL, top);
        }

        private void exchangeWithDe() {
            int old = pair(PAIR_DE);
            putPair(PAIR_DE, pair(PAIR_HL));
            putPair(PAIR_HL, old);
        }

        private void pushOrGo(int y) {
            switch (y) {
                case 0: case 2: case 4:
                    push(pair(y / 2));
                    break;
                case 6:
                    push(registers[REGISTER_A] << 8 | flags.all);
                    break;
                case 1:
                    callIf(true);
                    break;
                case 3:
                    jumpIf(!flags.has(FLAG_K));
                    break;
                case 7:
                    jumpIf(flags.has(FLAG_K));
                    break;
                default:
                    break;
            }
        }

        private void jumpIf(boolean taken) {
            int w = fetchWord();
            if (taken) {
                pc = w;
            }
        }

        private void callIf(boolean taken) {
            int w = fetchWord();
            if (taken) {
                push(pc);
                pc = w;
            }
        }

        private void call(int address) {
            push(pc);
            pc = address;
        }

        private void push(int word) {
            sp = sp - 2 & 65535;
            writeWord(sp, word);
        }

        private int pop() {
            int word = readWord(sp);
            sp = sp + 2 & 65535;
            return word;
        }

        private int register(int r) {
            return r == REGISTER_M ? read(pair(PAIR_HL)) : registers[r & 7];
        }

        private void putRegister(int r, int v) {
            if (r == REGISTER_M) {
                write(pair(PAIR_HL), v);
            } else {
                registers[r & 7] = v;
            }
        }

        private int pair(int p) {
            switch (p) {
                case PAIR_BC:
                    return registers[0] << 8 | registers[1];
                case PAIR_DE:
                    return registers[2] << 8 | registers[3];
                case PAIR_HL:
                    return registers[REGISTER_H] << 8 | registers[REGISTER_L];
                default:
                    return sp;
            }
        }

        private void putPair(int p, int v) {
            if (p == PAIR_SP) {
                sp = v & 65535;
            } else {
                int first = (p & 3) * 2;
                registers[first] = v >> 8 & 255;
                registers[first + 1] = v & 255;
            }
        }

        private int fetch() {
            ticks += BYTE_TICKS;
            int v = memory[pc & ADDRESS_BITS];
            pc = pc + 1 & 65535;
            return v;
        }

        private int fetchWord() {
            int low = fetch();
            return fetch() << 8 | low;
        }

        private int read(int address) {
            ticks += BYTE_TICKS;
            return memory[address & ADDRESS_BITS];
        }

        private void write(int address, int v) {
            ticks += BYTE_TICKS;
            memory[address & ADDRESS_BITS] = v & 255;
        }

        // Words go to memory by themselves: through read and write, PUSH and POP would lie nine calls deep.
        private int readWord(int address) {
            ticks += 2 * BYTE_TICKS;
            return memory[address + 1 & ADDRESS_BITS] << 8 | memory[address & ADDRESS_BITS];
        }

        private void writeWord(int address, int word) {
            ticks += 2 * BYTE_TICKS;
            memory[address & ADDRESS_BITS] = word & 255;
            memory[address + 1 & ADDRESS_BITS] = word >> 8 & 255;
        }
    }
}
