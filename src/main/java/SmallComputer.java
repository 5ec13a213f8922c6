/**
 * A small computer: a processor with segments, byte and word registers, string instructions and
 * interrupts, and on its bus an interrupt controller, a timer, a keyboard and a channel that puts
 * bytes into memory by itself.
 */
public final class SmallComputer {
    private static final int FIRST_PLACE = 512;
    private static final int FIRST_IP = 512;
    private static final int FIRST_SP = 256;
    private static final int MOST_STEPS = 100;

    private final Memory memory;
    private final Registers registers;
    private final Flags flags;
    private final Controller controller;
    private final Timer timer;
    private final Keyboard keyboard;
    private final Channel channel;
    private final Processor processor;
    private int place;

    public SmallComputer() {
        memory = new Memory();
        registers = new Registers();
        flags = new Flags();
        controller = new Controller();
        timer = new Timer(controller);
        keyboard = new Keyboard(controller);
        channel = new Channel(controller, memory);
        processor = new Processor(memory, registers, flags, controller,
                new Ports(controller, timer, keyboard, channel));
        registers.words[Registers.SP] = FIRST_SP;
        registers.ip = FIRST_IP;
        place = FIRST_PLACE;
    }

    public boolean poke(int address, int b) {
        if (!Memory.has(address) || !isByte(b)) {
            return false;
        }
        memory.setByteAt(address, b);
        return true;
    }

    public boolean load(int word, int n) {
        if (n < 1 || n > 4 || place + n > Memory.SIZE) {
            return false;
        }
        for (int i = n - 1; i >= 0; i--) {
            memory.setByteAt(place, (word >> (8 * i)) & 255);
            place++;
        }
        return true;
    }

    public boolean seek(int address) {
        if (!Memory.has(address)) {
            return false;
        }
        place = address;
        return true;
    }

    public int peek(int address) {
        return Memory.has(address) ? memory.byteAt(address) : -1;
    }

    public boolean step(int n) {
        if (n < 1 || n > MOST_STEPS) {
            return false;
        }
        for (int i = 0; i < n; i++) {
            timer.tick();
            processor.advance();
        }
        return true;
    }

    public int register(int k) {
        if (k < 0 || k > 13) {
            return -1;
        }
        if (k < 8) {
            return registers.words[k];
        }
        if (k < 12) {
            return registers.segments[k - 8];
        }
        return k == 12 ? registers.ip : flags.word;
    }

    public boolean put(int k, int v) {
        if (k < 0 || k > 13) {
            return false;
        }
        int word = v & 65535;
        if (k < 8) {
            registers.words[k] = word;
        } else if (k < 12) {
            registers.segments[k - 8] = word;
        } else if (k == 12) {
            registers.ip = word;
        } else {
            flags.word = word & Flags.ALL;
        }
        return true;
    }

    public boolean halted() {
        return processor.inHalt;
    }

    public boolean key(int code) {
        return isByte(code) && keyboard.come(code);
    }

    public boolean transfer(int b) {
        return isByte(b) && channel.come(b);
    }

    public int lines(int which) {
        switch (which) {
            case 0:
                return controller.requested;
            case 1:
                return controller.inService;
            case 2:
                return controller.masked;
            default:
                return -1;
        }
    }

    public int count() {
        return timer.current;
    }

    public int interrupts() {
        return processor.interruptsDone;
    }

    private static boolean isByte(int b) {
        return b >= 0 && b <= 255;
    }

    /** The 1024 bytes; an address beyond them wraps, so that no offset can miss the array. */
    private static final class Memory {
        static final int SIZE = 1024;
        private static final int WRAP = SIZE - 1;

        private final int[] bytes = new int[SIZE];

        static boolean has(int address) {
            return address >= 0 && address < SIZE;
        }

        int byteAt(int address) {
            return bytes[address & WRAP];
        }

        void setByteAt(int address, int b) {
            bytes[address & WRAP] = b;
        }

        int fetch(int segment, int offset, boolean wide) {
            int address = 16 * segment + offset;
            int low = bytes[address & WRAP];
            // An offset wraps at 65536, a multiple of the size: the next address needs no wrap of its own.
            return wide ? low | bytes[(address + 1) & WRAP] << 8 : low;
        }

        void store(int segment, int offset, boolean wide, int v) {
            int address = 16 * segment + offset;
            bytes[address & WRAP] = v & 255;
            if (wide) {
                bytes[(address + 1) & WRAP] = (v >> 8) & 255;
            }
        }
    }

    private static final class Registers {
        static final int AX = 0;
        static final int CX = 1;
        static final int DX = 2;
        static final int BX = 3;
        static final int SP = 4;
        static final int BP = 5;
        static final int SI = 6;
        static final int DI = 7;
        static final int ES = 0;
        static final int CS = 1;
        static final int SS = 2;
        static final int DS = 3;

        final int[] words = new int[8];
        final int[] segments = new int[4];
        int ip;

        /** Word register k, or byte register k: its lower bytes are numbered 0 to 3, its higher ones 4 to 7. */
        int value(int k, boolean wide) {
            if (wide) {
                return words[k & 7];
            }
            int word = words[k & 3];
            return k < 4 ? word & 255 : word >> 8;
        }

        void change(int k, boolean wide, int v) {
            if (wide) {
                words[k & 7] = v & 65535;
            } else if (k < 4) {
                words[k & 3] = (words[k & 3] & 65280) | (v & 255);
            } else {
                words[k & 3] = (words[k & 3] & 255) | (v & 255) << 8;
            }
        }

        void jump(int distance) {
            ip = (ip + distance) & 65535;
        }
    }

    /** The flags, and the operations that set them. */
    private static final class Flags {
        static final int C = 1;
        static final int Z = 1 << 6;
        static final int S = 1 << 7;
        static final int I = 1 << 9;
        static final int D = 1 << 10;
        static final int O = 1 << 11;
        static final int ALL = C | Z | S | I | D | O;

        int word;

        boolean on(int flag) {
            return (word & flag) != 0;
        }

        void set(int flag, boolean on) {
            word = on ? word | flag : word & ~flag;
        }

        /** What the first operand becomes by operation k; CMP leaves it as it is. */
        int combine(int k, int a, int b, boolean wide) {
            int carry = word & C;
            switch (k) {
                case 0:
                    return sum(a, b, 0, wide);
                case 1:
                    return logic(a | b, wide);
                case 2:
                    return sum(a, b, carry, wide);
                case 3:
                    return difference(a, b, carry, wide);
                case 4:
                    return logic(a & b, wide);
                case 5:
                    return difference(a, b, 0, wide);
                case 6:
                    return logic(a ^ b, wide);
                default:
                    difference(a, b, 0, wide);
                    return a;
            }
        }

        int oneMore(int a, boolean wide) {
            int carry = word & C;
            int result = sum(a, 1, 0, wide);
            word = (word & ~C) | carry;
            return result;
        }

        int oneLess(int a, boolean wide) {
            int carry = word & C;
            int result = difference(a, 1, 0, wide);
            word = (word & ~C) | carry;
            return result;
        }

        int difference(int a, int b, int borrow, boolean wide) {
            int full = a - b - borrow;
            int result = full & (wide ? 65535 : 255);
            mark(result, full != result, (a ^ b) & (a ^ result), wide);
            return result;
        }

        private int sum(int a, int b, int carry, boolean wide) {
            int full = a + b + carry;
            int result = full & (wide ? 65535 : 255);
            mark(result, full != result, (a ^ result) & (b ^ result), wide);
            return result;
        }

        private int logic(int result, boolean wide) {
            mark(result, false, 0, wide);
            return result;
        }

        /** Sets C, Z, S and O; O by the highest bit of signs, which is on where the signs contradict each other. */
        private void mark(int result, boolean carry, int signs, boolean wide) {
            int highest = wide ? 32768 : 128;
            int marked = word & (I | D);
            marked |= carry ? C : 0;
            marked |= result == 0 ? Z : 0;
            marked |= (result & highest) != 0 ? S : 0;
            marked |= (signs & highest) != 0 ? O : 0;
            word = marked;
        }
    }

    private static final class Controller {
        private static final int LINES = 8;
        private static final int END_OF_SERVICE = 32;
        private static final int SHOW_REQUESTED = 10;
        private static final int SHOW_IN_SERVICE = 11;

        int requested;
        int inService;
        int masked = 255;
        private boolean showsInService;

        void request(int line) {
            requested |= 1 << line;
        }

        /** The line whose request is to be given, or -1. */
        int lineToGive() {
            for (int line = 0; line < LINES; line++) {
                int bit = 1 << line;
                if ((inService & bit) != 0) {
                    return -1;
                }
                if ((requested & ~masked & bit) != 0) {
                    return line;
                }
            }
            return -1;
        }

        void give(int line) {
            requested &= ~(1 << line);
            inService |= 1 << line;
        }

        void command(int b) {
            if (b == END_OF_SERVICE) {
                // Of a number and the number less 1, the lowest bit that is on differs, and all below it.
                inService &= inService - 1;
            } else if (b == SHOW_REQUESTED) {
                showsInService = false;
            } else if (b == SHOW_IN_SERVICE) {
                showsInService = true;
            }
        }

        int shown() {
            return showsInService ? inService : requested;
        }
    }

    private static final class Timer {
        private static final int LINE = 0;

        private final Controller controller;
        /** 0 as long as the timer does not run, and never 0 once it does. */
        int current;
        private int start;
        private int lowerGot;
        private boolean getsHigher;
        private int held;
        private boolean answersHigher;

        Timer(Controller controller) {
            this.controller = controller;
        }

        void tick() {
            if (current == 0) {
                return;
            }
            current--;
            if (current == 0) {
                current = start;
                controller.request(LINE);
            }
        }

        void get(int b) {
            if (getsHigher) {
                int word = b << 8 | lowerGot;
                start = word == 0 ? 65536 : word;
                current = start;
            } else {
                lowerGot = b;
            }
            getsHigher = !getsHigher;
        }

        int answer() {
            boolean higher = answersHigher;
            answersHigher = !higher;
            if (higher) {
                return held >> 8;
            }
            held = current & 65535;
            return held & 255;
        }
    }

    private static final class Keyboard {
        private static final int LINE = 1;
        private static final int ROOM = 4;

        private final Controller controller;
        private final int[] keys = new int[ROOM];
        private int waiting;

        Keyboard(Controller controller) {
            this.controller = controller;
        }

        boolean come(int code) {
            if (waiting >= ROOM) {
                return false;
            }
            if (waiting == 0) {
                controller.request(LINE);
            }
            keys[waiting] = code;
            waiting++;
            return true;
        }

        int take() {
            if (waiting == 0) {
                return 0;
            }
            int first = keys[0];
            for (int i = 1; i < ROOM; i++) {
                keys[i - 1] = keys[i];
            }
            waiting--;
            if (waiting > 0) {
                controller.request(LINE);
            }
            return first;
        }

        int answerWaiting() {
            return waiting > 0 ? 1 : 0;
        }
    }

    private static final class Channel {
        private static final int LINE = 2;

        private final Controller controller;
        private final Memory memory;
        private int target;
        private int left;
        private int page;
        private boolean open;
        private boolean done;
        private boolean getsHigher;

        Channel(Controller controller, Memory memory) {
            this.controller = controller;
            this.memory = memory;
        }

        void getPlace(int b) {
            if (!getsHigher) {
                target = b;
            }
            getsHigher = !getsHigher;
        }

        void getLeft(int b) {
            left = getsHigher ? (left & 255) | b << 8 : (left & 65280) | b;
            getsHigher = !getsHigher;
        }

        void beginTurn() {
            getsHigher = false;
        }

        void getPage(int b) {
            page = b & 3;
        }

        void getMask(int b) {
            open = (b & 4) == 0;
        }

        boolean come(int b) {
            if (!open) {
                return false;
            }
            memory.setByteAt(256 * page + target, b);
            target = (target + 1) & 255;
            if (left == 0) {
                open = false;
                done = true;
                controller.request(LINE);
            } else {
                left--;
            }
            return true;
        }

        int answerDone() {
            int answer = done ? 2 : 0;
            done = false;
            return answer;
        }
    }

    private static final class Ports {
        private static final int NOTHING = 255;

        private final Controller controller;
        private final Timer timer;
        private final Keyboard keyboard;
        private final Channel channel;

        Ports(Controller controller, Timer timer, Keyboard keyboard, Channel channel) {
            this.controller = controller;
            this.timer = timer;
            this.keyboard = keyboard;
            this.channel = channel;
        }

        int answer(int port) {
            switch (port) {
                case 8:
                    return channel.answerDone();
                case 32:
                    return controller.shown();
                case 33:
                    return controller.masked;
                case 64:
                    return timer.answer();
                case 96:
                    return keyboard.take();
                case 100:
                    return keyboard.answerWaiting();
                default:
                    return NOTHING;
            }
        }

        void get(int port, int b) {
            switch (port) {
                case 2:
                    channel.getPlace(b);
                    break;
                case 3:
                    channel.getLeft(b);
                    break;
                case 10:
                    channel.getMask(b);
                    break;
                case 12:
                    channel.beginTurn();
                    break;
                case 32:
                    controller.command(b);
                    break;
                case 33:
                    controller.masked = b;
                    break;
                case 64:
                    timer.get(b);
                    break;
                case 131:
                    channel.getPage(b);
                    break;
                default:
                    break;
            }
        }
    }

    /** Reads the bytes of one instruction and knows what its prefixes and its modrm say. */
    private static final class Decoder {
        static final int REPEAT_WHILE_NOT_ZERO = 242;
        static final int REPEAT_WHILE_ZERO = 243;
        private static final int MOST_PREFIXES = 3;
        private static final int NONE = -1;

        private final Memory memory;
        private final Registers registers;
        int first;
        int code;
        int repeat;
        int r;
        int offset;
        boolean inMemory;
        private int prefixSegment;
        private int x;
        private int segment;
        private boolean wide;

        Decoder(Memory memory, Registers registers) {
            this.memory = memory;
            this.registers = registers;
        }

        /** Reads up to the code; false if a prefix too many stands before it. */
        boolean begin() {
            first = registers.ip;
            prefixSegment = NONE;
            repeat = 0;
            for (int i = 0; i <= MOST_PREFIXES; i++) {
                code = nextByte();
                if (code == REPEAT_WHILE_ZERO || code == REPEAT_WHILE_NOT_ZERO) {
                    repeat = code;
                } else if (code == 38 || code == 46 || code == 54 || code == 62) {
                    prefixSegment = (code - 38) >> 3;
                } else {
                    return true;
                }
            }
            return false;
        }

        int nextByte() {
            int b = memory.fetch(registers.segments[Registers.CS], registers.ip, false);
            registers.ip = (registers.ip + 1) & 65535;
            return b;
        }

        int nextWord() {
            int w = memory.fetch(registers.segments[Registers.CS], registers.ip, true);
            registers.ip = (registers.ip + 2) & 65535;
            return w;
        }

        int nextSigned() {
            return (byte) nextByte();
        }

        int nextOf(boolean wideOne) {
            return wideOne ? nextWord() : nextByte();
        }

        /** The value of the prefix's segment, or of the usual one where no prefix stands. */
        int segmentOr(int usual) {
            return registers.segments[(prefixSegment == NONE ? usual : prefixSegment) & 3];
        }

        void readModrm(boolean wideOne) {
            int b = nextByte();
            int m = b >> 6;
            r = (b >> 3) & 7;
            x = b & 7;
            wide = wideOne;
            inMemory = m != 3;
            if (!inMemory) {
                return;
            }
            boolean direct = m == 0 && x == 6;
            int sum = direct ? nextWord() : base();
            if (m == 1) {
                sum += (byte) nextByte();
            } else if (m == 2) {
                sum += nextWord();
            }
            offset = sum & 65535;
            boolean usesBp = !direct && (x == 2 || x == 3 || x == 6);
            segment = segmentOr(usesBp ? Registers.SS : Registers.DS);
        }

        int value() {
            return inMemory ? memory.fetch(segment, offset, wide) : registers.value(x, wide);
        }

        void change(int v) {
            if (inMemory) {
                memory.store(segment, offset, wide, v);
            } else {
                registers.change(x, wide, v);
            }
        }

        private int base() {
            int[] words = registers.words;
            switch (x) {
                case 0:
                    return words[Registers.BX] + words[Registers.SI];
                case 1:
                    return words[Registers.BX] + words[Registers.DI];
                case 2:
                    return words[Registers.BP] + words[Registers.SI];
                case 3:
                    return words[Registers.BP] + words[Registers.DI];
                case 4:
                    return words[Registers.SI];
                case 5:
                    return words[Registers.DI];
                case 6:
                    return words[Registers.BP];
                default:
                    return words[Registers.BX];
            }
        }
    }

    /** Does the instructions; each row of sixteen codes has a method, which answers false for an UNKNOWN one. */
    private static final class Processor {
        private static final int DIVISION_FAULT = 0;
        private static final int UNKNOWN = 6;
        private static final int FIRST_LINE = 8;

        private final Memory memory;
        private final Registers registers;
        private final Flags flags;
        private final Controller controller;
        private final Ports ports;
        private final Decoder decoder;
        boolean inHalt;
        int interruptsDone;
        /** Whether the instruction of the step before keeps requests off for one step. */
        private boolean keepsOff;

        Processor(Memory memory, Registers registers, Flags flags, Controller controller, Ports ports) {
            this.memory = memory;
            this.registers = registers;
            this.flags = flags;
            this.controller = controller;
            this.ports = ports;
            this.decoder = new Decoder(memory, registers);
        }

        /** A step, but for the timer. */
        void advance() {
            int line = flags.on(Flags.I) && !keepsOff ? controller.lineToGive() : -1;
            keepsOff = false;
            if (line >= 0) {
                controller.give(line);
                inHalt = false;
                interrupt(FIRST_LINE + line);
            } else if (!inHalt && !(decoder.begin() && perform(decoder.code))) {
                registers.ip = decoder.first;
                interrupt(UNKNOWN);
            }
        }

        private boolean perform(int code) {
            switch (code >> 4) {
                case 0:
                case 1:
                case 2:
                case 3:
                    return (code & 7) < 6 ? combine(code) : segmentOnStack(code);
                case 4:
                    return countRegister(code);
                case 5:
                    return registerOnStack(code);
                case 7:
                    return jumpIf(code & 15);
                case 8:
                    return code < 136 ? combineGiven(code) : move(code);
                case 9:
                    return code == 144;
                case 10:
                    return string(code);
                case 11:
                    return moveGiven(code);
                case 12:
                    return leave(code);
                case 14:
                    return jumpOrPort(code);
                case 15:
                    if (code >= 254) {
                        return countOperand(code == 255);
                    }
                    return code < 248 ? haltOrUnary(code) : setFlag(code);
                default:
                    return false;
            }
        }

        private boolean combine(int code) {
            int k = code >> 3;
            boolean wide = (code & 1) == 1;
            if ((code & 4) != 0) {
                int given = decoder.nextOf(wide);
                registers.change(Registers.AX, wide,
                        flags.combine(k, registers.value(Registers.AX, wide), given, wide));
                return true;
            }
            decoder.readModrm(wide);
            int e = decoder.value();
            int own = registers.value(decoder.r, wide);
            if ((code & 2) == 0) {
                decoder.change(flags.combine(k, e, own, wide));
            } else {
                registers.change(decoder.r, wide, flags.combine(k, own, e, wide));
            }
            return true;
        }

        private boolean combineGiven(int code) {
            if (code > 131 || code == 130) {
                return false;
            }
            boolean wide = code != 128;
            decoder.readModrm(wide);
            int given = code == 131 ? decoder.nextSigned() & 65535 : decoder.nextOf(wide);
            decoder.change(flags.combine(decoder.r, decoder.value(), given, wide));
            return true;
        }

        private boolean segmentOnStack(int code) {
            int k = code >> 3;
            if (k > Registers.DS) {
                return false;
            }
            if ((code & 1) == 0) {
                push(registers.segments[k]);
                return true;
            }
            if (k == Registers.CS) {
                return false;
            }
            registers.segments[k] = pop();
            keepsOff = k == Registers.SS;
            return true;
        }

        private boolean countRegister(int code) {
            int k = code & 7;
            int old = registers.words[k];
            registers.words[k] = code < 72 ? flags.oneMore(old, true) : flags.oneLess(old, true);
            return true;
        }

        private boolean registerOnStack(int code) {
            int k = code & 7;
            if (code < 88) {
                push(registers.words[k]);
            } else {
                registers.words[k] = pop();
            }
            return true;
        }

        private boolean jumpIf(int c) {
            if (c == 10 || c == 11) {
                return false;
            }
            int distance = decoder.nextSigned();
            // An odd condition is the even one before it, turned over.
            if (holds(c >> 1) == ((c & 1) == 0)) {
                registers.jump(distance);
            }
            return true;
        }

        private boolean holds(int pair) {
            boolean signWrong = flags.on(Flags.S) != flags.on(Flags.O);
            switch (pair) {
                case 0:
                    return flags.on(Flags.O);
                case 1:
                    return flags.on(Flags.C);
                case 2:
                    return flags.on(Flags.Z);
                case 3:
                    return flags.on(Flags.C | Flags.Z);
                case 4:
                    return flags.on(Flags.S);
                case 6:
                    return signWrong;
                default:
                    return signWrong || flags.on(Flags.Z);
            }
        }

        private boolean move(int code) {
            if (code == 143) {
                return false;
            }
            boolean wide = code > 139 || (code & 1) == 1;
            decoder.readModrm(wide);
            if (code >= 140) {
                return moveSegmentOrOffset(code);
            }
            if (code < 138) {
                decoder.change(registers.value(decoder.r, wide));
            } else {
                registers.change(decoder.r, wide, decoder.value());
            }
            return true;
        }

        private boolean moveSegmentOrOffset(int code) {
            int k = decoder.r & 3;
            if (code == 140) {
                decoder.change(registers.segments[k]);
                return true;
            }
            if (code == 141) {
                if (decoder.inMemory) {
                    registers.words[decoder.r & 7] = decoder.offset;
                }
                return decoder.inMemory;
            }
            if (k == Registers.CS) {
                return false;
            }
            registers.segments[k] = decoder.value();
            keepsOff = k == Registers.SS;
            return true;
        }

        private boolean moveGiven(int code) {
            boolean wide = code >= 184;
            registers.change(code & 7, wide, decoder.nextOf(wide));
            return true;
        }

        private boolean string(int code) {
            if (code < 164 || (code > 165 && code < 170)) {
                return false;
            }
            if (decoder.repeat == 0) {
                stringOnce(code);
                return true;
            }
            if (registers.words[Registers.CX] == 0) {
                return true;
            }
            stringOnce(code);
            registers.words[Registers.CX]--;
            boolean wantsZero = decoder.repeat == Decoder.REPEAT_WHILE_ZERO;
            boolean ended = code >= 174 && flags.on(Flags.Z) != wantsZero;
            if (registers.words[Registers.CX] != 0 && !ended) {
                registers.ip = decoder.first;
            }
            return true;
        }

        private void stringOnce(int code) {
            boolean wide = (code & 1) == 1;
            int kind = code & ~1;
            int target = registers.segments[Registers.ES];
            int source = decoder.segmentOr(Registers.DS);
            int si = registers.words[Registers.SI];
            int di = registers.words[Registers.DI];
            int own = registers.value(Registers.AX, wide);
            if (kind == 164) {
                memory.store(target, di, wide, memory.fetch(source, si, wide));
            } else if (kind == 170) {
                memory.store(target, di, wide, own);
            } else if (kind == 172) {
                registers.change(Registers.AX, wide, memory.fetch(source, si, wide));
            } else {
                flags.difference(own, memory.fetch(target, di, wide), 0, wide);
            }
            int distance = (wide ? 2 : 1) * (flags.on(Flags.D) ? -1 : 1);
            if (kind == 164 || kind == 172) {
                registers.words[Registers.SI] = (si + distance) & 65535;
            }
            if (kind != 172) {
                registers.words[Registers.DI] = (di + distance) & 65535;
            }
        }

        private boolean leave(int code) {
            if (code == 195) {
                registers.ip = pop();
            } else if (code == 205) {
                interrupt(decoder.nextByte());
            } else if (code == 207) {
                registers.ip = pop();
                registers.segments[Registers.CS] = pop();
                flags.word = pop() & Flags.ALL;
            } else {
                return false;
            }
            return true;
        }

        private boolean jumpOrPort(int code) {
            switch (code) {
                case 226:
                    loop(decoder.nextSigned());
                    return true;
                case 228:
                    registers.change(Registers.AX, false, ports.answer(decoder.nextByte()));
                    return true;
                case 230:
                    ports.get(decoder.nextByte(), registers.value(Registers.AX, false));
                    return true;
                case 232:
                    visit(decoder.nextWord());
                    return true;
                case 233:
                    registers.jump(decoder.nextWord());
                    return true;
                case 235:
                    registers.jump(decoder.nextSigned());
                    return true;
                default:
                    return false;
            }
        }

        private void loop(int distance) {
            int left = (registers.words[Registers.CX] - 1) & 65535;
            registers.words[Registers.CX] = left;
            if (left != 0) {
                registers.jump(distance);
            }
        }

        private void visit(int distance) {
            push(registers.ip);
            registers.jump(distance);
        }

        private boolean haltOrUnary(int code) {
            if (code == 244) {
                inHalt = true;
                return true;
            }
            if (code < 246) {
                return false;
            }
            boolean wide = code == 247;
            decoder.readModrm(wide);
            int e = decoder.value();
            switch (decoder.r) {
                case 2:
                    decoder.change(~e);
                    return true;
                case 3:
                    decoder.change(flags.difference(0, e, 0, wide));
                    return true;
                case 4:
                    multiply(e, wide);
                    return true;
                case 6:
                    if (!divide(e, wide)) {
                        interrupt(DIVISION_FAULT);
                    }
                    return true;
                default:
                    return false;
            }
        }

        private void multiply(int e, boolean wide) {
            long product = (long) registers.value(Registers.AX, wide) * e;
            registers.words[Registers.AX] = (int) (product & 65535);
            int higher = (int) (product >> (wide ? 16 : 8));
            if (wide) {
                registers.words[Registers.DX] = higher;
            }
            flags.set(Flags.C | Flags.O, higher != 0);
        }

        /** False, and nothing changed, if the divisor is 0 or the quotient has no room. */
        private boolean divide(int e, boolean wide) {
            long most = wide ? 65535 : 255;
            long whole = registers.words[Registers.AX];
            if (wide) {
                whole |= (long) registers.words[Registers.DX] << 16;
            }
            if (e == 0 || whole / e > most) {
                return false;
            }
            int quotient = (int) (whole / e);
            int rest = (int) (whole % e);
            if (wide) {
                registers.words[Registers.AX] = quotient;
                registers.words[Registers.DX] = rest;
            } else {
                registers.words[Registers.AX] = rest << 8 | quotient;
            }
            return true;
        }

        private boolean setFlag(int code) {
            // The codes come in pairs: the flag becomes 0, then the flag becomes 1.
            int flag = code < 250 ? Flags.C : code < 252 ? Flags.I : Flags.D;
            flags.set(flag, (code & 1) == 1);
            keepsOff = code == 251;
            return true;
        }

        private boolean countOperand(boolean wide) {
            decoder.readModrm(wide);
            int e = decoder.value();
            if (decoder.r > 1) {
                return false;
            }
            decoder.change(decoder.r == 0 ? flags.oneMore(e, wide) : flags.oneLess(e, wide));
            return true;
        }

        private void interrupt(int n) {
            push(flags.word);
            push(registers.segments[Registers.CS]);
            push(registers.ip);
            flags.set(Flags.I, false);
            int vector = 4 * (n & 15);
            registers.ip = memory.fetch(0, vector, true);
            registers.segments[Registers.CS] = memory.fetch(0, vector + 2, true);
            interruptsDone++;
        }

        private void push(int word) {
            int sp = (registers.words[Registers.SP] - 2) & 65535;
            registers.words[Registers.SP] = sp;
            memory.store(registers.segments[Registers.SS], sp, true, word);
        }

        private int pop() {
            int sp = registers.words[Registers.SP];
            registers.words[Registers.SP] = (sp + 2) & 65535;
            return memory.fetch(registers.segments[Registers.SS], sp, true);
        }
    }
}
