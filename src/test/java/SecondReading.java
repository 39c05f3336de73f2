import java.util.ArrayDeque;
import java.util.Deque;

/**
 * The document read a second time, as plainly as its sentences stand: bytes go one after the other, numbers are divided
 * and not masked, each flag is a variable. It shares no code with the class, so a slip in one of them shows.
 */
final class SecondReading {
    private static final int NOT_DOWN = 0;
    private static final int DOWN_ONCE = 1;
    private static final int COUNTED = 2;

    private final int[] memory = new int[1024];
    final boolean[] down = new boolean[16];
    final int[] display = new int[16];
    boolean line65;
    boolean serialIn;

    // B, C, D, E, H, L, nothing, A.
    private final int[] registers = new int[8];
    private int sp;
    private int pc;
    private boolean s;
    private boolean z;
    private boolean k;
    private boolean h;
    private boolean p;
    private boolean v;
    private boolean c;
    private boolean halts;
    private int bytes;

    private boolean on;
    private boolean onJustNow;
    private boolean masked55 = true;
    private boolean masked65 = true;
    private boolean masked75 = true;
    private boolean wanted75;
    private boolean serialOut;

    private int lowLoad;
    private int highLoad;
    private int length;
    private int left;
    private boolean runs;
    private boolean again;
    private boolean lastTime;
    private boolean ended;

    private final int[] keyStates = new int[16];
    private final Deque<Integer> queue = new ArrayDeque<>();
    private boolean underrun;
    private boolean overrun;
    private int place;
    private int now;

    int poke(int address, int value) {
        int old = peek(address);
        memory[Math.floorMod(address, 1024)] = Math.floorMod(value, 256);
        return old;
    }

    int peek(int address) {
        return memory[Math.floorMod(address, 1024)];
    }

    int about(int which) {
        switch (which) {
            case 6: return flags();
            case 8: return sp;
            case 9: return pc;
            case 10: return bit(on, 1) + bit(halts, 2);
            case 11: return masks();
            case 12: return bit(serialOut, 1);
            case 13: return runs ? left : 0;
            case 14: return status();
            default: return registers[which];
        }
    }

    void set(int which, int value) {
        switch (which) {
            case 6: setFlags(Math.floorMod(value, 256)); break;
            case 8: sp = Math.floorMod(value, 65536); break;
            case 9: pc = Math.floorMod(value, 65536); break;
            default: registers[which] = Math.floorMod(value, 256); break;
        }
    }

    int step() {
        int ticks = 4;
        if (on && !onJustNow && serves()) {
            ticks = 10;
        } else if (!halts) {
            onJustNow = false;
            bytes = 0;
            int first = fetch();
            execute(first / 64, first / 8 % 8, first % 8);
            ticks = 4 + 3 * (bytes - 1);
        }
        for (int i = 0; i < ticks; i++) {
            timerTick();
            now++;
            if (now % 64 == 0) {
                scan();
            }
        }
        return ticks;
    }

    private boolean serves() {
        int address;
        if (wanted75 && !masked75) {
            address = 60;
            wanted75 = false;
        } else if (line65 && !masked65) {
            address = 52;
        } else if (!queue.isEmpty() && !masked55) {
            address = 44;
        } else {
            return false;
        }
        on = false;
        halts = false;
        call(address);
        return true;
    }

    private void timerTick() {
        if (!runs) {
            return;
        }
        left = left - 1;
        if (left == 0) {
            ended = true;
            wanted75 = true;
            runs = again && !lastTime;
            left = length;
        }
    }

    private void scan() {
        for (int key = 0; key < 16; key++) {
            if (!down[key]) {
                keyStates[key] = NOT_DOWN;
            } else if (keyStates[key] == NOT_DOWN) {
                keyStates[key] = DOWN_ONCE;
            } else if (keyStates[key] == DOWN_ONCE) {
                keyStates[key] = COUNTED;
                if (queue.size() < 8) {
                    queue.addLast(key);
                } else {
                    overrun = true;
                }
            }
        }
    }

    private void execute(int x, int y, int last) {
        if (x == 0) {
            executeFirst(y, last);
        } else if (x == 1 && y == 6 && last == 6) {
            halts = true;
        } else if (x == 1) {
            put(y, get(last));
        } else if (x == 2) {
            operate(y, get(last));
        } else {
            executeLast(y, last);
        }
    }

    private void executeFirst(int y, int last) {
        boolean before = c;
        switch (last) {
            case 0:
                if (y == 4) {
                    registers[7] = readMask();
                } else if (y == 6) {
                    setMask(registers[7]);
                }
                break;
            case 1:
                if (y % 2 == 0) {
                    putPair(y / 2, fetchTwo());
                } else {
                    int all = pair(2) + pair(y / 2);
                    putPair(2, all);
                    c = all > 65535;
                }
                break;
            case 2: moveByAddress(y); break;
            case 3:
                putPair(y / 2, pair(y / 2) + (y % 2 == 0 ? 1 : -1));
                k = pair(y / 2) == (y % 2 == 0 ? 0 : 65535);
                break;
            case 4:
                put(y, sum(get(y), 1, 0));
                c = before;
                break;
            case 5:
                put(y, difference(get(y), 1, 0));
                c = before;
                break;
            case 6: put(y, fetch()); break;
            default: changeA(y, registers[7]); break;
        }
    }

    private void moveByAddress(int y) {
        if (y < 4) {
            if (y % 2 == 0) {
                write(pair(y / 2), registers[7]);
            } else {
                registers[7] = read(pair(y / 2));
            }
            return;
        }
        int w = fetchTwo();
        switch (y) {
            case 4:
                write(w, registers[5]);
                write(w + 1, registers[4]);
                break;
            case 5:
                registers[5] = read(w);
                registers[4] = read(w + 1);
                break;
            case 6: write(w, registers[7]); break;
            default: registers[7] = read(w); break;
        }
    }

    private void changeA(int y, int a) {
        int carry = bit(c, 1);
        switch (y) {
            case 0:
                registers[7] = a * 2 % 256 + a / 128;
                c = a >= 128;
                break;
            case 1:
                registers[7] = a / 2 + a % 2 * 128;
                c = a % 2 == 1;
                break;
            case 2:
                registers[7] = a * 2 % 256 + carry;
                c = a >= 128;
                break;
            case 3:
                registers[7] = a / 2 + carry * 128;
                c = a % 2 == 1;
                break;
            case 4: decimal(a); break;
            case 5: registers[7] = 255 - a; break;
            case 6: c = true; break;
            default: c = !c; break;
        }
    }

    private void decimal(int a) {
        boolean stays = c;
        int six = a % 16 > 9 || h ? 6 : 0;
        int ninetySix = a > 153 || c ? 96 : 0;
        registers[7] = sum(a, six + ninetySix, 0);
        c = c || stays || ninetySix > 0;
    }

    private void operate(int y, int b) {
        int a = registers[7];
        int carry = bit(c, 1);
        switch (y) {
            case 0: registers[7] = sum(a, b, 0); break;
            case 1: registers[7] = sum(a, b, carry); break;
            case 2: registers[7] = difference(a, b, 0); break;
            case 3: registers[7] = difference(a, b, carry); break;
            case 4: putBits(a & b, true); break;
            case 5: putBits(a ^ b, false); break;
            case 6: putBits(a | b, false); break;
            default: difference(a, b, 0); break;
        }
    }

    private void executeLast(int y, int last) {
        switch (last) {
            case 0:
                if (condition(y)) {
                    pc = pop();
                }
                break;
            case 1: popOrReturn(y); break;
            case 2: jump(condition(y)); break;
            case 3: executeOther(y); break;
            case 4: callOfWord(condition(y)); break;
            case 5: pushOrGo(y); break;
            case 6: operate(y, fetch()); break;
            default: call(8 * y); break;
        }
    }

    private void popOrReturn(int y) {
        if (y == 6) {
            int both = pop();
            registers[7] = both / 256;
            setFlags(both % 256);
        } else if (y % 2 == 0) {
            putPair(y / 2, pop());
        } else if (y == 1) {
            pc = pop();
        } else if (y == 5) {
            pc = pair(2);
        } else if (y == 7) {
            sp = pair(2);
        }
    }

    private void executeOther(int y) {
        switch (y) {
            case 0: jump(true); break;
            case 1:
                if (v) {
                    call(64);
                }
                break;
            case 2: toPort(fetch(), registers[7]); break;
            case 3: registers[7] = fromPort(fetch()); break;
            case 4:
                int first = read(sp);
                int second = read(sp + 1);
                write(sp, registers[5]);
                write(sp + 1, registers[4]);
                putPair(2, second * 256 + first);
                break;
            case 5:
                int de = pair(1);
                putPair(1, pair(2));
                putPair(2, de);
                break;
            case 6: on = false; break;
            default:
                on = true;
                onJustNow = true;
                break;
        }
    }

    private void pushOrGo(int y) {
        if (y == 6) {
            push(registers[7], flags());
        } else if (y % 2 == 0) {
            push(pair(y / 2) / 256, pair(y / 2) % 256);
        } else if (y == 1) {
            callOfWord(true);
        } else if (y == 3) {
            jump(!k);
        } else if (y == 7) {
            jump(k);
        }
    }

    private void jump(boolean taken) {
        int w = fetchTwo();
        pc = taken ? w : pc;
    }

    private void callOfWord(boolean taken) {
        int w = fetchTwo();
        if (taken) {
            call(w);
        }
    }

    private void call(int address) {
        push(pc / 256, pc % 256);
        pc = address;
    }

    private void push(int high, int low) {
        sp = Math.floorMod(sp - 1, 65536);
        write(sp, high);
        sp = Math.floorMod(sp - 1, 65536);
        write(sp, low);
    }

    private int pop() {
        int low = read(sp);
        sp = Math.floorMod(sp + 1, 65536);
        int high = read(sp);
        sp = Math.floorMod(sp + 1, 65536);
        return high * 256 + low;
    }

    private boolean condition(int y) {
        boolean[] each = {!z, z, !c, c, !p, p, !s, s};
        return each[y];
    }

    private int sum(int a, int b, int carry) {
        int low = (a + b + carry) % 256;
        flagsOf(low);
        c = a + b + carry > 255;
        h = a % 16 + b % 16 + carry > 15;
        v = a / 128 == b / 128 && low / 128 != a / 128;
        k = v ^ s;
        return low;
    }

    private int difference(int a, int b, int carry) {
        int low = sum(a, 255 - b, 1 - carry);
        c = !c;
        return low;
    }

    private void putBits(int a, boolean half) {
        registers[7] = a;
        flagsOf(a);
        h = half;
        c = false;
        v = false;
        k = s;
    }

    private void flagsOf(int value) {
        s = value >= 128;
        z = value == 0;
        p = Integer.toBinaryString(value).replace("0", "").length() % 2 == 0;
    }

    private int flags() {
        return bit(s, 128) + bit(z, 64) + bit(k, 32) + bit(h, 16) + bit(p, 4) + bit(v, 2) + bit(c, 1);
    }

    private void setFlags(int value) {
        s = value / 128 % 2 == 1;
        z = value / 64 % 2 == 1;
        k = value / 32 % 2 == 1;
        h = value / 16 % 2 == 1;
        p = value / 4 % 2 == 1;
        v = value / 2 % 2 == 1;
        c = value % 2 == 1;
    }

    private int masks() {
        return bit(masked55, 1) + bit(masked65, 2) + bit(masked75, 4);
    }

    private int readMask() {
        return masks() + bit(on, 8) + bit(!queue.isEmpty(), 16) + bit(line65, 32) + bit(wanted75, 64) + bit(serialIn, 128);
    }

    private void setMask(int a) {
        if (a / 8 % 2 == 1) {
            masked55 = a % 2 == 1;
            masked65 = a / 2 % 2 == 1;
            masked75 = a / 4 % 2 == 1;
        }
        if (a / 16 % 2 == 1) {
            wanted75 = false;
        }
        if (a / 64 % 2 == 1) {
            serialOut = a / 128 == 1;
        }
    }

    private int status() {
        return queue.size() % 8 + bit(queue.size() == 8, 8) + bit(underrun, 16) + bit(overrun, 32);
    }

    private int fromPort(int port) {
        bytes++;
        if (port == 0) {
            int answer = bit(ended, 64);
            ended = false;
            return answer;
        }
        if (port == 8) {
            underrun = underrun || queue.isEmpty();
            return queue.isEmpty() ? 0 : queue.removeFirst();
        }
        return port == 9 ? status() : 255;
    }

    private void toPort(int port, int value) {
        bytes++;
        if (port == 0) {
            commandTimer(value / 64);
        } else if (port == 4) {
            lowLoad = value;
        } else if (port == 5) {
            highLoad = value;
        } else if (port == 8) {
            display[place] = value;
            place = (place + 1) % 16;
        } else if (port == 9 && value / 32 == 4) {
            place = value % 16;
        } else if (port == 9 && value / 32 == 6) {
            empty();
        }
    }

    private void commandTimer(int command) {
        if (command == 1) {
            runs = false;
        } else if (command == 2 && runs) {
            lastTime = true;
        } else if (command == 3) {
            length = Math.max(2, highLoad % 64 * 256 + lowLoad);
            again = highLoad / 64 % 2 == 1;
            lastTime = false;
            left = length;
            runs = true;
        }
    }

    private void empty() {
        queue.clear();
        underrun = false;
        overrun = false;
        for (int key = 0; key < 16; key++) {
            keyStates[key] = down[key] ? NOT_DOWN : keyStates[key];
        }
    }

    private int get(int register) {
        return register == 6 ? read(pair(2)) : registers[register];
    }

    private void put(int register, int value) {
        if (register == 6) {
            write(pair(2), value);
        } else {
            registers[register] = value;
        }
    }

    private int pair(int number) {
        return number == 3 ? sp : registers[2 * number] * 256 + registers[2 * number + 1];
    }

    private void putPair(int number, int value) {
        int round = Math.floorMod(value, 65536);
        if (number == 3) {
            sp = round;
        } else {
            registers[2 * number] = round / 256;
            registers[2 * number + 1] = round % 256;
        }
    }

    private int fetch() {
        int value = read(pc);
        pc = Math.floorMod(pc + 1, 65536);
        return value;
    }

    private int fetchTwo() {
        int low = fetch();
        return fetch() * 256 + low;
    }

    private int read(int address) {
        bytes++;
        return memory[address % 1024];
    }

    private void write(int address, int value) {
        bytes++;
        memory[address % 1024] = value;
    }

    private static int bit(boolean set, int worth) {
        return set ? worth : 0;
    }
}
