import java.util.NoSuchElementException;

/**
 * A small computer: a processor with sixteen registers, a video chip that takes the screen out of
 * memory between instructions, keys, and a language for games over the same memory.
 */
public final class VipBoard {
    private static final int LAST_ADDRESS = 2047;
    private static final int LAST_BYTE = 255;
    private static final int LAST_KEY = 15;
    private static final int MOST_CYCLES = 4000;
    private static final int MOST_STEPS = 200;

    private final Memory memory;
    private final Keys keys;
    private final Timers timers;
    private final Picture picture;
    private final Processor processor;
    private final Language language;

    public VipBoard() {
        memory = new Memory();
        keys = new Keys();
        timers = new Timers();
        picture = new Picture(timers);
        processor = new Processor(memory, keys, picture);
        language = new Language(memory, keys, timers);
    }

    public void poke(int address, int v) throws IllegalArgumentException {
        if (address < 0 || address > LAST_ADDRESS) {
            throw new IllegalArgumentException("address is not 0 .. 2047");
        }
        if (v < 0 || v > LAST_BYTE) {
            throw new IllegalArgumentException("v is not 0 .. 255");
        }
        memory.write(address, v);
    }

    public int peek(int address) {
        if (address < 0 || address > LAST_ADDRESS) {
            return -1;
        }
        return memory.read(address);
    }

    public int cpu(int what) throws NoSuchElementException {
        if (what < 0 || what > Processor.IDLE) {
            throw new NoSuchElementException("what is not 0 .. 23");
        }
        return processor.part(what);
    }

    public void set(int what, int v) throws IllegalArgumentException {
        if (what < 0 || what >= Processor.IDLE) {
            throw new IllegalArgumentException("what is not 0 .. 22");
        }
        if (v < 0 || v > Processor.mostOf(what)) {
            throw new IllegalArgumentException("v is not of the kind of what");
        }
        processor.change(what, v);
    }

    public void key(int k, boolean down) throws IllegalArgumentException {
        if (k < 0 || k > LAST_KEY) {
            throw new IllegalArgumentException("k is not 0 .. 15");
        }
        keys.move(k, down);
    }

    public int run(int n) throws IllegalArgumentException {
        if (n < 1 || n > MOST_CYCLES) {
            throw new IllegalArgumentException("n is not 1 .. 4000");
        }
        int over = 0;
        // A turn takes one cycle at least, so n turns are always enough.
        for (int turns = 0; turns < n && over < n; turns++) {
            int cycles = processor.act();
            picture.pass(cycles);
            over += cycles + letVideoAct();
        }
        return over;
    }

    public int video(int what) throws NoSuchElementException {
        if (what < 0 || what > 5) {
            throw new NoSuchElementException("what is not 0 .. 5");
        }
        return what == 5 ? keys.asked() : picture.part(what);
    }

    public int shown(int row, int k) throws NoSuchElementException {
        if (row < 0 || row >= Picture.ROWS) {
            throw new NoSuchElementException("row is not 0 .. 127");
        }
        if (k < 0 || k >= Picture.ROW_BYTES) {
            throw new NoSuchElementException("k is not 0 .. 7");
        }
        return picture.fetchedByte(row, k);
    }

    public int chip(int n)
            throws IllegalArgumentException, UnsupportedOperationException, IllegalStateException {
        if (n < 1 || n > MOST_STEPS) {
            throw new IllegalArgumentException("n is not 1 .. 200");
        }
        for (int made = 0; made < n; made++) {
            int outcome = language.step();
            if (outcome == Language.WAITS) {
                return made;
            }
            if (outcome == Language.UNKNOWN) {
                throw new UnsupportedOperationException("the instruction at PC is none");
            }
            if (outcome == Language.STACK_FAILS) {
                throw new IllegalStateException("the stack is empty or full");
            }
        }
        return n;
    }

    public int v(int what) throws NoSuchElementException {
        if (what < 0 || what > 21) {
            throw new NoSuchElementException("what is not 0 .. 21");
        }
        if (what == 19) {
            return timers.delay();
        }
        return what == 20 ? timers.tone() : language.part(what);
    }

    public void start(int pc) throws IllegalArgumentException {
        if (pc < 0 || pc > LAST_ADDRESS) {
            throw new IllegalArgumentException("pc is not 0 .. 2047");
        }
        language.restart(pc);
    }

    /** What video does when an instruction or an idle cycle is over; answers the cycles it takes. */
    private int letVideoAct() {
        if (picture.rowIsDue()) {
            fetchRow();
            return Picture.ROW_BYTES;
        }
        if (picture.interruptIsDue() && processor.allowsInterrupt()) {
            processor.interrupt();
            picture.noteInterrupt();
            picture.pass(1);
            return 1;
        }
        return 0;
    }

    private void fetchRow() {
        for (int k = 0; k < Picture.ROW_BYTES; k++) {
            picture.keep(k, processor.takeByte());
        }
        // The row counts as fetched in its own line, which may be over before the 8 cycles are.
        picture.noteFetch();
        picture.pass(Picture.ROW_BYTES);
        processor.wake();
    }

    /** The bytes that processor, video and language share. */
    private static final class Memory {
        private static final int SIZE = 2048;

        private final int[] bytes = new int[SIZE];

        int read(int address) {
            return bytes[address & (SIZE - 1)];
        }

        void write(int address, int value) {
            bytes[address & (SIZE - 1)] = value & 255;
        }

        int pair(int address) {
            return read(address) * 256 + read(address + 1);
        }
    }

    /** The sixteen keys, and the one of them that the line EF3 tells. */
    private static final class Keys {
        private static final int COUNT = 16;

        private final boolean[] down = new boolean[COUNT];
        private int asked;

        void move(int k, boolean isDown) {
            down[k & (COUNT - 1)] = isDown;
        }

        boolean isDown(int k) {
            return down[k & (COUNT - 1)];
        }

        /** The least key that is down, or -1. */
        int least() {
            for (int k = 0; k < COUNT; k++) {
                if (down[k]) {
                    return k;
                }
            }
            return -1;
        }

        void ask(int k) {
            asked = k & (COUNT - 1);
        }

        int asked() {
            return asked;
        }

        boolean askedIsDown() {
            return down[asked & (COUNT - 1)];
        }
    }

    /** The language's timers, which fall by the frames of video. */
    private static final class Timers {
        private int delay;
        private int tone;

        int delay() {
            return delay;
        }

        int tone() {
            return tone;
        }

        void setDelay(int value) {
            delay = value & 255;
        }

        void setTone(int value) {
            tone = value & 255;
        }

        void fall() {
            if (delay > 0) {
                delay--;
            }
            if (tone > 0) {
                tone--;
            }
        }
    }

    /** The video chip: its place in the frame, and the screen as it was fetched last. */
    private static final class Picture {
        static final int ROWS = 128;
        static final int ROW_BYTES = 8;
        private static final int LINES = 262;
        private static final int LINE_CYCLES = 14;
        private static final int FIRST_SHOWN_LINE = 64;
        private static final int FIRST_FETCH_PLACE = 2;

        private final Timers timers;
        private final int[] screen = new int[ROWS * ROW_BYTES];
        private boolean on;
        private int line;
        private int place;
        private int frames;
        private boolean fetched;
        private boolean interrupted;

        Picture(Timers timers) {
            this.timers = timers;
        }

        void switchTo(boolean isOn) {
            on = isOn;
        }

        /** EF1: shortly before the shown lines, and in the last four of them. */
        boolean flag() {
            return on && ((line >= 60 && line <= 63) || (line >= 188 && line <= 191));
        }

        int part(int what) {
            switch (what) {
                case 0:
                    return on ? 1 : 0;
                case 1:
                    return line;
                case 2:
                    return place;
                case 3:
                    return frames;
                default:
                    return flag() ? 1 : 0;
            }
        }

        /** Lets time go by; cycles is at most 8, so no more than one line can end. */
        void pass(int cycles) {
            place += cycles;
            if (place >= LINE_CYCLES) {
                place -= LINE_CYCLES;
                endLine();
            }
        }

        private void endLine() {
            fetched = false;
            line++;
            if (line >= LINES) {
                line = 0;
                frames++;
                interrupted = false;
                timers.fall();
            }
        }

        boolean rowIsDue() {
            return on && !fetched && place >= FIRST_FETCH_PLACE && isShownLine();
        }

        private boolean isShownLine() {
            return line >= FIRST_SHOWN_LINE && line < FIRST_SHOWN_LINE + ROWS;
        }

        boolean interruptIsDue() {
            return on && !interrupted && (line == 62 || line == 63);
        }

        void noteInterrupt() {
            interrupted = true;
        }

        void noteFetch() {
            fetched = true;
        }

        /** Keeps a byte of the row that belongs to this line. */
        void keep(int k, int value) {
            screen[spot(line - FIRST_SHOWN_LINE, k)] = value;
        }

        int fetchedByte(int row, int k) {
            return screen[spot(row, k)];
        }

        private static int spot(int row, int k) {
            return (row * ROW_BYTES + k) & (ROWS * ROW_BYTES - 1);
        }
    }

    /** The processor and its instructions. */
    private static final class Processor {
        static final int IDLE = 23;
        private static final int REGISTERS = 16;

        private final Memory memory;
        private final Keys keys;
        private final Picture picture;
        private final int[] registers = new int[REGISTERS];
        private int d;
        private int df;
        private int p;
        private int x;
        private int t;
        private int ie = 1;
        private int q;
        private boolean idle;

        Processor(Memory memory, Keys keys, Picture picture) {
            this.memory = memory;
            this.keys = keys;
            this.picture = picture;
        }

        int part(int what) {
            switch (what) {
                case 16:
                    return d;
                case 17:
                    return df;
                case 18:
                    return p;
                case 19:
                    return x;
                case 20:
                    return t;
                case 21:
                    return ie;
                case 22:
                    return q;
                case IDLE:
                    return idle ? 1 : 0;
                default:
                    return register(what);
            }
        }

        static int mostOf(int what) {
            switch (what) {
                case 16:
                case 20:
                    return 255;
                case 18:
                case 19:
                    return 15;
                case 17:
                case 21:
                case 22:
                    return 1;
                default:
                    return 65535;
            }
        }

        void change(int what, int value) {
            switch (what) {
                case 16:
                    d = value;
                    break;
                case 17:
                    df = value;
                    break;
                case 18:
                    p = value;
                    break;
                case 19:
                    x = value;
                    break;
                case 20:
                    t = value;
                    break;
                case 21:
                    ie = value;
                    break;
                case 22:
                    q = value;
                    break;
                default:
                    putRegister(what, value);
                    break;
            }
        }

        boolean allowsInterrupt() {
            return ie == 1;
        }

        void interrupt() {
            t = 16 * x + p;
            x = 2;
            p = 1;
            ie = 0;
            wake();
        }

        void wake() {
            idle = false;
        }

        /** M(0), behind which R0 grows: what video takes in one cycle. */
        int takeByte() {
            return take(0);
        }

        /** One instruction or one idle cycle; answers the cycles that it takes. */
        int act() {
            if (idle) {
                return 1;
            }
            int code = take(p);
            execute(code >> 4, code & 15);
            return (code >> 4) == 12 ? 3 : 2;
        }

        private int register(int n) {
            return registers[n & (REGISTERS - 1)];
        }

        private void putRegister(int n, int value) {
            registers[n & (REGISTERS - 1)] = value & 65535;
        }

        private void grow(int n, int by) {
            putRegister(n, register(n) + by);
        }

        private int at(int n) {
            return memory.read(register(n));
        }

        private void putAt(int n, int value) {
            memory.write(register(n), value);
        }

        /** M(N), behind which RN grows. */
        private int take(int n) {
            int address = registers[n & (REGISTERS - 1)];
            registers[n & (REGISTERS - 1)] = (address + 1) & 65535;
            return memory.read(address);
        }

        private void execute(int group, int n) {
            switch (group) {
                case 0:
                    loadOrIdle(n);
                    break;
                case 1:
                    grow(n, 1);
                    break;
                case 2:
                    grow(n, -1);
                    break;
                case 3:
                    branch(n);
                    break;
                case 4:
                    d = take(n);
                    break;
                case 5:
                    putAt(n, d);
                    break;
                case 6:
                    transfer(n);
                    break;
                case 7:
                    control(n);
                    break;
                case 8:
                    d = register(n) & 255;
                    break;
                case 9:
                    d = register(n) >> 8;
                    break;
                case 10:
                    putRegister(n, (register(n) & 0xFF00) + d);
                    break;
                case 11:
                    putRegister(n, (register(n) & 255) + 256 * d);
                    break;
                case 12:
                    goFar(n);
                    break;
                case 13:
                    p = n;
                    break;
                case 14:
                    x = n;
                    break;
                default:
                    calculate(n);
                    break;
            }
        }

        private void loadOrIdle(int n) {
            if (n == 0) {
                idle = true;
            } else {
                d = at(n);
            }
        }

        private void branch(int n) {
            if (holds(n)) {
                putRegister(p, (register(p) & 0xFF00) + at(p));
            } else {
                grow(p, 1);
            }
        }

        /** A branch's condition; those from 8 on are the opposites. */
        private boolean holds(int n) {
            boolean opposite = n >= 8;
            switch (n & 7) {
                case 0:
                    return !opposite;
                case 1:
                    return (q == 1) != opposite;
                case 2:
                    return (d == 0) != opposite;
                case 3:
                    return (df == 1) != opposite;
                case 4:
                    return picture.flag() != opposite;
                case 6:
                    return keys.askedIsDown() != opposite;
                default:
                    // EF2 and EF4 are never on.
                    return opposite;
            }
        }

        private void transfer(int n) {
            if (n == 0) {
                grow(x, 1);
            } else if (n < 8) {
                output(n, take(x));
            } else if (n > 8) {
                putAt(x, 0);
                d = 0;
                if (n == 9) {
                    picture.switchTo(true);
                }
            }
        }

        private void output(int port, int value) {
            if (port == 1) {
                picture.switchTo(false);
            } else if (port == 2) {
                keys.ask(value);
            }
        }

        private void control(int n) {
            switch (n) {
                case 0:
                case 1:
                    resume(1 - n);
                    break;
                case 2:
                    d = take(x);
                    break;
                case 3:
                    putAt(x, d);
                    grow(x, -1);
                    break;
                case 6:
                    shiftRight(df);
                    break;
                case 8:
                    putAt(x, t);
                    break;
                case 9:
                    mark();
                    break;
                case 10:
                case 11:
                    q = n - 10;
                    break;
                case 14:
                    shiftLeft(df);
                    break;
                default:
                    combine(n & 7, operand(n), df, 1 - df);
                    break;
            }
        }

        private void resume(int enable) {
            int saved = take(x);
            x = saved >> 4;
            p = saved & 15;
            ie = enable;
        }

        private void mark() {
            t = 16 * x + p;
            putAt(2, t);
            x = p;
            grow(2, -1);
        }

        private void goFar(int n) {
            if (n <= 3 || (n >= 9 && n <= 11)) {
                branchFar(n);
            } else if (skips(n)) {
                grow(p, 2);
            }
        }

        private void branchFar(int n) {
            if (holds(n)) {
                putRegister(p, memory.pair(register(p)));
            } else {
                grow(p, 2);
            }
        }

        private boolean skips(int n) {
            switch (n) {
                case 5:
                    return q == 0;
                case 6:
                    return d != 0;
                case 7:
                    return df == 0;
                case 8:
                    return true;
                case 12:
                    return ie == 1;
                case 13:
                    return q == 1;
                case 14:
                    return d == 0;
                case 15:
                    return df == 1;
                default:
                    return false;
            }
        }

        private void calculate(int n) {
            if (n == 6) {
                shiftRight(0);
            } else if (n == 14) {
                shiftLeft(0);
            } else {
                combine(n & 7, operand(n), 0, 0);
            }
        }

        /** M(X), or from 8 on the next byte, which RP then leaves behind. */
        private int operand(int n) {
            return n < 8 ? at(x) : take(p);
        }

        private void combine(int kind, int value, int carry, int borrow) {
            switch (kind) {
                case 0:
                    d = value;
                    break;
                case 1:
                    d = d | value;
                    break;
                case 2:
                    d = d & value;
                    break;
                case 3:
                    d = d ^ value;
                    break;
                case 4:
                    add(value, carry);
                    break;
                case 5:
                    subtract(value, d, borrow);
                    break;
                default:
                    subtract(d, value, borrow);
                    break;
            }
        }

        private void add(int value, int carry) {
            int sum = value + d + carry;
            d = sum & 255;
            df = sum >> 8;
        }

        private void subtract(int from, int value, int borrow) {
            int difference = from - value - borrow;
            d = difference & 255;
            df = difference >= 0 ? 1 : 0;
        }

        private void shiftRight(int above) {
            int fallen = d & 1;
            d = (d >> 1) | (above << 7);
            df = fallen;
        }

        private void shiftLeft(int below) {
            int fallen = d >> 7;
            d = ((d << 1) & 255) | below;
            df = fallen;
        }
    }

    /** The language of the games: its state and its steps. */
    private static final class Language {
        static final int MADE = 0;
        static final int WAITS = 1;
        static final int UNKNOWN = 2;
        static final int STACK_FAILS = 3;
        private static final int VARIABLES = 16;
        private static final int FLAG = 15;
        private static final int STACK_SIZE = 12;
        private static final int MASK = 4095;
        private static final int FIRST_PC = 512;
        private static final int SCREEN = 1792;
        private static final int SCREEN_ROWS = 32;
        private static final int SCREEN_COLUMNS = 64;
        private static final int ROW_BYTES = 8;

        private final Memory memory;
        private final Keys keys;
        private final Timers timers;
        private final int[] variables = new int[VARIABLES];
        private final int[] stack = new int[STACK_SIZE];
        private int depth;
        private int index;
        private int pc = FIRST_PC;
        private int random;

        Language(Memory memory, Keys keys, Timers timers) {
            this.memory = memory;
            this.keys = keys;
            this.timers = timers;
        }

        void restart(int address) {
            pc = address;
            depth = 0;
        }

        int part(int what) {
            switch (what) {
                case 16:
                    return index;
                case 17:
                    return pc;
                case 18:
                    return depth;
                case 21:
                    return random;
                default:
                    return variable(what);
            }
        }

        /** One step; if it is not MADE, PC stays and nothing has been done. */
        int step() {
            int before = pc;
            int code = memory.pair(pc);
            jump(pc + 2);
            int outcome = execute(code);
            if (outcome != MADE) {
                pc = before;
            }
            return outcome;
        }

        private int variable(int n) {
            return variables[n & (VARIABLES - 1)];
        }

        private void putVariable(int n, int value) {
            variables[n & (VARIABLES - 1)] = value & 255;
        }

        private void putIndex(int value) {
            index = value & MASK;
        }

        private void jump(int address) {
            pc = address & MASK;
        }

        private int skipIf(boolean condition) {
            if (condition) {
                jump(pc + 2);
            }
            return MADE;
        }

        private int execute(int code) {
            int x = (code >> 8) & 15;
            int y = (code >> 4) & 15;
            int low = code & 255;
            switch (code >> 12) {
                case 0:
                    return clearOrLeave(code);
                case 1:
                    jump(code);
                    return MADE;
                case 2:
                    return enter(code);
                case 3:
                    return skipIf(variable(x) == low);
                case 4:
                    return skipIf(variable(x) != low);
                case 5:
                case 9:
                    return compare(code, variable(x) == variable(y));
                case 6:
                    putVariable(x, low);
                    return MADE;
                case 7:
                    putVariable(x, variable(x) + low);
                    return MADE;
                case 8:
                    return combine(code & 15, x, variable(y));
                case 10:
                    putIndex(code);
                    return MADE;
                case 11:
                    jump((code & MASK) + variable(0));
                    return MADE;
                case 12:
                    random = (random * 5 + 1) & 255;
                    putVariable(x, random & low);
                    return MADE;
                case 13:
                    draw(variable(x), variable(y), code & 15);
                    return MADE;
                case 14:
                    return skipByKey(low, keys.isDown(variable(x)));
                default:
                    return low >= 0x30 ? executeStore(x, low) : executeSystem(x, low);
            }
        }

        private int clearOrLeave(int code) {
            if (code == 0x00E0) {
                clear();
                return MADE;
            }
            return code == 0x00EE ? leave() : UNKNOWN;
        }

        private void clear() {
            for (int k = 0; k < SCREEN_ROWS * ROW_BYTES; k++) {
                memory.write(SCREEN + k, 0);
            }
        }

        private int leave() {
            if (depth <= 0 || depth > STACK_SIZE) {
                return STACK_FAILS;
            }
            depth--;
            jump(stack[depth]);
            return MADE;
        }

        private int enter(int address) {
            if (depth < 0 || depth >= STACK_SIZE) {
                return STACK_FAILS;
            }
            stack[depth] = pc;
            depth++;
            jump(address);
            return MADE;
        }

        private int compare(int code, boolean same) {
            if ((code & 15) != 0) {
                return UNKNOWN;
            }
            return skipIf((code >> 12) == 5 ? same : !same);
        }

        private int combine(int kind, int x, int other) {
            int own = variable(x);
            switch (kind) {
                case 0:
                    putVariable(x, other);
                    return MADE;
                case 1:
                    putVariable(x, own | other);
                    return MADE;
                case 2:
                    putVariable(x, own & other);
                    return MADE;
                case 3:
                    putVariable(x, own ^ other);
                    return MADE;
                case 4:
                    return putWithFlag(x, own + other, own + other > 255);
                case 5:
                    return putWithFlag(x, own - other, own >= other);
                case 6:
                    return putWithFlag(x, other >> 1, (other & 1) == 1);
                case 7:
                    return putWithFlag(x, other - own, other >= own);
                case 14:
                    return putWithFlag(x, other << 1, other > 127);
                default:
                    return UNKNOWN;
            }
        }

        /** The flag goes last: it wins where x is the flag's own variable. */
        private int putWithFlag(int x, int value, boolean flag) {
            putVariable(x, value);
            putVariable(FLAG, flag ? 1 : 0);
            return MADE;
        }

        private int skipByKey(int kind, boolean isDown) {
            if (kind == 0x9E) {
                return skipIf(isDown);
            }
            return kind == 0xA1 ? skipIf(!isDown) : UNKNOWN;
        }

        private int executeSystem(int x, int kind) {
            switch (kind) {
                case 0x07:
                    putVariable(x, timers.delay());
                    return MADE;
                case 0x0A:
                    return takeKey(x);
                case 0x15:
                    timers.setDelay(variable(x));
                    return MADE;
                case 0x18:
                    timers.setTone(variable(x));
                    return MADE;
                case 0x1E:
                    putIndex(index + variable(x));
                    return MADE;
                case 0x29:
                    putIndex(5 * (variable(x) & 15));
                    return MADE;
                default:
                    return UNKNOWN;
            }
        }

        private int takeKey(int x) {
            int k = keys.least();
            if (k < 0) {
                return WAITS;
            }
            putVariable(x, k);
            return MADE;
        }

        private int executeStore(int x, int kind) {
            switch (kind) {
                case 0x33:
                    putDigits(variable(x));
                    return MADE;
                case 0x55:
                    saveVariables(x);
                    return MADE;
                case 0x65:
                    loadVariables(x);
                    return MADE;
                default:
                    return UNKNOWN;
            }
        }

        private void putDigits(int value) {
            memory.write(index, value / 100);
            memory.write(index + 1, value / 10 % 10);
            memory.write(index + 2, value % 10);
        }

        private void saveVariables(int last) {
            for (int n = 0; n <= last; n++) {
                memory.write(index + n, variable(n));
            }
            putIndex(index + last + 1);
        }

        private void loadVariables(int last) {
            for (int n = 0; n <= last; n++) {
                putVariable(n, memory.read(index + n));
            }
            putIndex(index + last + 1);
        }

        private void draw(int atColumn, int atRow, int height) {
            int column = atColumn & (SCREEN_COLUMNS - 1);
            int row = atRow & (SCREEN_ROWS - 1);
            boolean hit = false;
            for (int k = 0; k < height && row + k < SCREEN_ROWS; k++) {
                // Read one at a time: bytes that lie in the screen may have been drawn over before.
                if (drawByte(row + k, column, memory.read(index + k))) {
                    hit = true;
                }
            }
            putVariable(FLAG, hit ? 1 : 0);
        }

        private boolean drawByte(int row, int column, int bits) {
            int address = SCREEN + row * ROW_BYTES + column / 8;
            int shift = column % 8;
            boolean hit = flip(address, bits >> shift);
            if (column / 8 < ROW_BYTES - 1 && flip(address + 1, (bits << (8 - shift)) & 255)) {
                hit = true;
            }
            return hit;
        }

        /** Draws by exclusive or; tells whether a bit went from 1 to 0. */
        private boolean flip(int address, int bits) {
            int before = memory.read(address);
            memory.write(address, before ^ bits);
            return (before & bits) != 0;
        }
    }
}
