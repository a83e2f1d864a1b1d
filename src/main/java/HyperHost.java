import java.util.Arrays;

/**
 * A machine of 32 bits with a hypervisor's mode: four modes, two stages of translation, traps that are
 * passed down. ../shared/DOC.md promises what it answers; the words in capitals here are its terms.
 */
public final class HyperHost {
    public static final int BAD = -1;

    private static final int FRAME_BITS = 12;
    private static final int FRAME_BYTES = 1 << FRAME_BITS;
    private static final int FRAME_WORDS = FRAME_BYTES / 4;
    private static final int FRAMES = 64;
    private static final int MEMORY_BYTES = FRAMES * FRAME_BYTES;
    private static final int CONSOLE_BYTES = 4096;
    private static final int MOST_STEPS = 2000;
    private static final int POKED_BYTES = 20;
    private static final int REGISTERS = 32;
    private static final long NO_SIGN = 0xffffffffL;
    private static final long NEVER = 0x7fffffffffffffffL;
    private static final int NONE = -1;

    private static final int MODE_U = 0;
    private static final int MODE_S = 1;
    private static final int MODE_VU = 2;
    private static final int MODE_VS = 3;

    private static final int BYTE = 0;
    private static final int HALF = 1;
    private static final int WORD = 2;

    // S control registers; a VS one's number is that of its kind and VS_OFFSET.
    private static final int STATUS = 0x100;
    private static final int IE = 0x104;
    private static final int TVEC = 0x105;
    private static final int SCRATCH = 0x140;
    private static final int EPC = 0x141;
    private static final int CAUSE = 0x142;
    private static final int TVAL = 0x143;
    private static final int IP = 0x144;
    private static final int ATP = 0x180;
    private static final int VS_OFFSET = 0x100;

    private static final int HSTATUS = 0x600;
    private static final int HEDELEG = 0x602;
    private static final int HIDELEG = 0x603;
    private static final int HIE = 0x604;
    private static final int HTVAL = 0x643;
    private static final int HIP = 0x644;
    private static final int HVIP = 0x645;
    private static final int HTINST = 0x64a;
    private static final int HGATP = 0x680;
    private static final int TIME = 0xc01;
    private static final int TIME_UPPER = 0xc81;

    private static final int STATUS_IE = 1 << 1;
    private static final int STATUS_PIE = 1 << 5;
    private static final int STATUS_PP = 1 << 8;
    private static final int STATUS_SUM = 1 << 18;
    private static final int STATUS_MXR = 1 << 19;
    private static final int STATUS_KEEPS = STATUS_IE | STATUS_PIE | STATUS_PP | STATUS_SUM | STATUS_MXR;

    private static final int GVA = 1 << 6;
    private static final int SPV = 1 << 7;
    private static final int SPVP = 1 << 8;
    private static final int HU = 1 << 9;
    private static final int VTVM = 1 << 20;
    private static final int VTW = 1 << 21;
    private static final int VTSR = 1 << 22;
    private static final int HSTATUS_KEEPS = GVA | SPV | SPVP | HU | VTVM | VTW | VTSR;

    private static final int SOFT_BIT = 1 << 1;
    private static final int ALARM_BIT = 1 << 5;
    private static final int LINE_BIT = 1 << 9;
    private static final int S_INTERRUPTS = SOFT_BIT | ALARM_BIT | LINE_BIT;
    private static final int VS_INTERRUPTS = S_INTERRUPTS << 1;
    private static final int VS_SOFT_BIT = SOFT_BIT << 1;
    private static final int[] INTERRUPT_ORDER = {9, 1, 5, 10, 2, 6};

    private static final int TVEC_KEEPS = ~2;
    private static final int EPC_KEEPS = ~3;
    private static final int ATP_KEEPS = 0x803fffff;
    private static final int HGATP_KEEPS = 0x803ffffc;
    private static final int HEDELEG_KEEPS = 0xb1ff;

    private static final int PLACE_EXCEPTION = 0;
    private static final int ILLEGAL = 2;
    private static final int BREAK = 3;
    private static final int CALL_OF_USER = 8;
    private static final int CALL_OF_VS = 10;
    private static final int VIRTUAL = 22;
    private static final int INTERRUPT = 0x80000000;
    // Bit n is set if TVAL of exception n is an address: 0, 1, 3 to 7, 12, 13, 15, 20, 21, 23.
    private static final int TVAL_IS_ADDRESS = 0x00b0b0fb;
    private static final int ENTRY_PLACE = 0x2000;

    // The bits of a table's entry.
    private static final int V = 1;
    private static final int R = 1 << 1;
    private static final int W = 1 << 2;
    private static final int X = 1 << 3;
    private static final int USER = 1 << 4;
    private static final int A = 1 << 6;
    private static final int D = 1 << 7;
    private static final int LOW_FRAME = 0x3ff << 10;

    private static final int ROOT = 0x3fffff;
    private static final int LEVELS = 2;

    // What a translation tells instead of a place.
    private static final long FAULT = -1;
    private static final long GUEST_FAULT = -2;
    private static final long OUTSIDE = -3;

    private static final int CALL_ALARM = 0;
    private static final int CALL_CONSOLE = 1;
    private static final int CALL_OFF = 8;
    private static final int UNKNOWN_CALL = -2;

    private final Core core;

    public HyperHost() {
        core = new Core();
        core.reset();
    }

    public void begin() {
        core.reset();
    }

    public int poke(int address, int a, int b, int c, int d, int e) {
        if (address < 0 || (address & 3) != 0 || address > MEMORY_BYTES - POKED_BYTES) {
            return BAD;
        }
        core.memory.writeWord(address, a);
        core.memory.writeWord(address + 4, b);
        core.memory.writeWord(address + 8, c);
        core.memory.writeWord(address + 12, d);
        core.memory.writeWord(address + 16, e);
        return 0;
    }

    public int word(int address) {
        if (address < 0 || address >= MEMORY_BYTES || (address & 3) != 0) {
            return 0;
        }
        return core.memory.readWord(address);
    }

    public int sum(int first, int frames) {
        if (first < 0 || first >= FRAMES || frames <= 0 || frames > FRAMES - first) {
            return BAD;
        }
        int end = (first + frames) * FRAME_BYTES;
        int sum = 1;
        for (int address = first * FRAME_BYTES; address < end; address += 4) {
            sum = 31 * sum + core.memory.readWord(address);
        }
        return sum;
    }

    public int setRegister(int n, int v) {
        if (n < 0 || n >= REGISTERS) {
            return 0;
        }
        int before = core.x[n];
        core.put(n, v);
        return before;
    }

    public int register(int n) {
        return n < 0 || n >= REGISTERS ? 0 : core.x[n];
    }

    public int setControl(int number, int v) {
        if (core.controls.refusal(number, true, MODE_S) != NONE) {
            return BAD;
        }
        core.controls.write(number, v);
        return 0;
    }

    public int control(int number) {
        return core.controls.tell(number);
    }

    public int place(int pc, int mode) {
        if ((pc & 3) != 0 || mode < MODE_U || mode > MODE_VS) {
            return BAD;
        }
        int before = core.mode;
        core.pc = pc;
        core.mode = mode;
        return before;
    }

    public boolean line(boolean on) {
        boolean before = core.controls.lineOn;
        core.controls.lineOn = on;
        return before;
    }

    public int run(int steps) {
        if (steps < 0 || steps > MOST_STEPS) {
            return BAD;
        }
        int done = 0;
        for (; done < steps && !core.off; done++) {
            if (core.startStep()) {
                core.perform();
            }
            core.endStep();
        }
        return done;
    }

    public int count(int what) {
        switch (what) {
            case 0: return core.mode;
            case 1: return core.pc;
            case 2: return (int) core.controls.time;
            case 3: return (int) (core.controls.time >>> 32);
            case 4: return core.trapsToS;
            case 5: return core.trapsToVs;
            case 6: return core.interrupts;
            case 7: return core.consoleSize;
            case 8: return core.off ? 1 : 0;
            case 9: return (int) core.controls.alarm;
            case 10: return (int) (core.controls.alarm >>> 32);
            default: return BAD;
        }
    }

    public int console(int i) {
        return i < 0 || i >= core.consoleSize ? BAD : core.console.read(i, BYTE) & 0xff;
    }

    public int breaches() {
        return core.memory.breachCount;
    }

    private static boolean isVirtual(int mode) {
        return mode >= MODE_VU;
    }

    private static boolean isSupervisor(int mode) {
        return (mode & 1) != 0;
    }

    private static final class Frame {
        final int[] words = new int[FRAME_WORDS];
    }

    /** Some frames of bytes. A frame that was never written is not made: many objects may share one room. */
    private static final class Memory {
        private final Frame[] frames;
        int breachCount;

        Memory(int frameCount) {
            frames = new Frame[frameCount];
        }

        void clear() {
            breachCount = 0;
            for (int i = 0; i < frames.length; i++) {
                Frame frame = frames[i];
                if (frame != null) {
                    Arrays.fill(frame.words, 0);
                }
            }
        }

        /** The word that holds the byte at an address. */
        int readWord(int address) {
            int number = address >>> FRAME_BITS;
            if (number >= frames.length) {
                breachCount++;
                return 0;
            }
            Frame frame = frames[number];
            return frame == null ? 0 : frame.words[address >>> 2 & FRAME_WORDS - 1];
        }

        void writeWord(int address, int v) {
            int number = address >>> FRAME_BITS;
            if (number >= frames.length) {
                breachCount++;
                return;
            }
            Frame frame = frames[number];
            if (frame == null) {
                frame = new Frame();
                frames[number] = frame;
            }
            frame.words[address >>> 2 & FRAME_WORDS - 1] = v;
        }

        /** What stands at an address that is a multiple of its width, with its sign. */
        int read(int address, int width) {
            int lowest = readWord(address) >>> 8 * (address & 3);
            if (width == BYTE) {
                return (byte) lowest;
            }
            return width == HALF ? (short) lowest : lowest;
        }

        void write(int address, int width, int v) {
            if (width == WORD) {
                writeWord(address, v);
                return;
            }
            int shift = 8 * (address & 3);
            int mask = (width == BYTE ? 0xff : 0xffff) << shift;
            writeWord(address, readWord(address) & ~mask | v << shift & mask);
        }
    }

    /** The control registers of S, or those of VS; the kinds bear the numbers of S. */
    private static final class Bank {
        int status;
        int ie;
        int tvec;
        int scratch;
        int epc;
        int cause;
        int tval;
        int ip;
        int atp;

        void clear() {
            status = 0;
            ie = 0;
            tvec = 0;
            scratch = 0;
            epc = 0;
            cause = 0;
            tval = 0;
            ip = 0;
            atp = 0;
        }

        int tell(int kind) {
            switch (kind) {
                case STATUS: return status;
                case IE: return ie;
                case TVEC: return tvec;
                case SCRATCH: return scratch;
                case EPC: return epc;
                case CAUSE: return cause;
                case TVAL: return tval;
                case IP: return ip;
                case ATP: return atp;
                default: return 0;
            }
        }

        void write(int kind, int v) {
            switch (kind) {
                case STATUS: status = v & STATUS_KEEPS; break;
                case IE: ie = v & S_INTERRUPTS; break;
                case TVEC: tvec = v & TVEC_KEEPS; break;
                case SCRATCH: scratch = v; break;
                case EPC: epc = v & EPC_KEEPS; break;
                case CAUSE: cause = v; break;
                case TVAL: tval = v; break;
                case IP: ip = v & SOFT_BIT; break;
                case ATP: atp = v & ATP_KEEPS; break;
                default: break;
            }
        }

        /** A trap: the PC that it leads to. */
        int enter(int pc, int newCause, int newTval, boolean fromSupervisor) {
            epc = pc;
            cause = newCause;
            tval = newTval;
            int pie = (status & STATUS_IE) != 0 ? STATUS_PIE : 0;
            int pp = fromSupervisor ? STATUS_PP : 0;
            status = status & ~(STATUS_IE | STATUS_PIE | STATUS_PP) | pie | pp;
            boolean byNumber = newCause < 0 && (tvec & 1) != 0;
            return (tvec & ~3) + (byNumber ? 4 * (newCause & ~INTERRUPT) : 0);
        }

        /** The way back from a trap: whether it leads to a supervisor's mode. */
        boolean leave() {
            boolean toSupervisor = (status & STATUS_PP) != 0;
            int enabled = (status & STATUS_PIE) != 0 ? STATUS_IE : 0;
            status = status & ~(STATUS_IE | STATUS_PP) | enabled | STATUS_PIE;
            return toSupervisor;
        }
    }

    /** All control registers, and what they tell of: TIME, the ALARM, the LINE. */
    private static final class Controls {
        final Bank s = new Bank();
        final Bank vs = new Bank();
        int hstatus;
        int hedeleg;
        int hideleg;
        int hie;
        int htval;
        int hvip;
        int htinst;
        int hgatp;
        long time;
        long alarm;
        boolean lineOn;

        void clear() {
            s.clear();
            vs.clear();
            hstatus = 0;
            hedeleg = 0;
            hideleg = 0;
            hie = 0;
            htval = 0;
            hvip = 0;
            htinst = 0;
            hgatp = 0;
            time = 0;
            alarm = NEVER;
            lineOn = false;
        }

        private static boolean isOfS(int number) {
            switch (number) {
                case STATUS: case IE: case TVEC: case SCRATCH: case EPC: case CAUSE: case TVAL: case IP: case ATP:
                    return true;
                default:
                    return false;
            }
        }

        private static boolean isOfH(int number) {
            switch (number) {
                case HSTATUS: case HEDELEG: case HIDELEG: case HIE: case HTVAL: case HIP: case HVIP: case HTINST:
                case HGATP:
                    return true;
                default:
                    return false;
            }
        }

        /** The exception of an ACCESS, or NONE where it is allowed. */
        int refusal(int number, boolean write, int mode) {
            if (number == TIME || number == TIME_UPPER) {
                return write ? ILLEGAL : NONE;
            }
            if (!isOfS(number) && !isOfS(number - VS_OFFSET) && !isOfH(number)) {
                return ILLEGAL;
            }
            if (mode == MODE_S) {
                return NONE;
            }
            if (mode == MODE_U) {
                return ILLEGAL;
            }
            boolean barred = number == ATP && (hstatus & VTVM) != 0;
            return mode == MODE_VS && isOfS(number) && !barred ? NONE : VIRTUAL;
        }

        /** The register that a number means in a mode. */
        static int meant(int number, int mode) {
            return mode == MODE_VS && isOfS(number) ? number + VS_OFFSET : number;
        }

        int tell(int number) {
            if (isOfS(number)) {
                return number == IP ? pendingForS() : s.tell(number);
            }
            switch (number) {
                case VS_OFFSET + IE: return (hie & hideleg) >>> 1;
                case VS_OFFSET + IP: return (hvip & hideleg) >>> 1;
                case HSTATUS: return hstatus;
                case HEDELEG: return hedeleg;
                case HIDELEG: return hideleg;
                case HIE: return hie;
                case HTVAL: return htval;
                case HIP: return hvip;
                case HVIP: return hvip;
                case HTINST: return htinst;
                case HGATP: return hgatp;
                case TIME: return (int) time;
                case TIME_UPPER: return (int) (time >>> 32);
                default: return vs.tell(number - VS_OFFSET);
            }
        }

        void write(int number, int v) {
            if (isOfS(number)) {
                s.write(number, v);
                return;
            }
            switch (number) {
                case VS_OFFSET + IE: hie = hie & ~hideleg | v << 1 & hideleg; break;
                case VS_OFFSET + IP: raiseSoft(v << 1, VS_SOFT_BIT & hideleg); break;
                case HSTATUS: hstatus = v & HSTATUS_KEEPS; break;
                case HEDELEG: hedeleg = v & HEDELEG_KEEPS; break;
                case HIDELEG: hideleg = v & VS_INTERRUPTS; break;
                case HIE: hie = v & VS_INTERRUPTS; break;
                case HTVAL: htval = v; break;
                case HIP: raiseSoft(v, VS_SOFT_BIT); break;
                case HVIP: hvip = v & VS_INTERRUPTS; break;
                case HTINST: htinst = v; break;
                case HGATP: hgatp = v & HGATP_KEEPS; break;
                default: vs.write(number - VS_OFFSET, v); break;
            }
        }

        private void raiseSoft(int v, int mask) {
            hvip = hvip & ~mask | v & mask;
        }

        private int pendingForS() {
            return s.ip | (time >= alarm ? ALARM_BIT : 0) | (lineOn ? LINE_BIT : 0);
        }

        /** The number of the interrupt that is due for S, or NONE. */
        int dueForS(int mode) {
            if (mode == MODE_S && (s.status & STATUS_IE) == 0) {
                return NONE;
            }
            return first(pendingForS() & s.ie | hvip & hie & ~hideleg);
        }

        /** The number of the interrupt that is due for VS, as S would number it, or NONE. */
        int dueForVs(int mode) {
            boolean open = mode == MODE_VU || mode == MODE_VS && (vs.status & STATUS_IE) != 0;
            return open ? first(hvip & hie & hideleg) : NONE;
        }

        private static int first(int ready) {
            for (int i = 0; i < INTERRUPT_ORDER.length; i++) {
                if ((ready >>> INTERRUPT_ORDER[i] & 1) != 0) {
                    return INTERRUPT_ORDER[i];
                }
            }
            return NONE;
        }

        /** What the H registers keep of a trap to S. */
        void noteTrap(Trap trap, int mode) {
            hstatus &= ~(GVA | SPV);
            if (isVirtual(mode)) {
                hstatus = hstatus & ~SPVP | SPV | (isSupervisor(mode) ? SPVP : 0);
            }
            if (trap.tellsAddress() && (isVirtual(mode) || trap.asGuest)) {
                hstatus |= GVA;
            }
            htval = trap.guest;
            htinst = trap.inst;
        }
    }

    /** What a step has come to instead of its instruction, if anything. */
    private static final class Trap {
        int cause;
        int tval;
        int guest;
        int inst;
        boolean asGuest;
        boolean interruptForVs;

        void clear() {
            cause = NONE;
            tval = 0;
            guest = 0;
            inst = 0;
            asGuest = false;
            interruptForVs = false;
        }

        void raise(int newCause, int newTval) {
            cause = newCause;
            tval = newTval;
        }

        boolean tellsAddress() {
            return cause >= 0 && (TVAL_IS_ADDRESS >>> cause & 1) != 0;
        }

        boolean goesToVs(int mode, int hedeleg) {
            return cause < 0 ? interruptForVs : isVirtual(mode) && (hedeleg >>> cause & 1) != 0;
        }
    }

    /** What is asked of an address: which bits of a leaf it wants (one of any, all of all), its exceptions. */
    private enum Access {
        FETCH(X, V | A, 0, 12, 20, 1),
        LOAD(R, V | A, 4, 13, 21, 5),
        LOAD_FOR_EXECUTION(X, V | A, 4, 13, 21, 5),
        STORE(W, V | A | D, 6, 15, 23, 7);

        final int any;
        final int all;
        final int misaligned;
        final int fault;
        final int guestFault;
        final int outside;

        Access(int any, int all, int misaligned, int fault, int guestFault, int outside) {
            this.any = any;
            this.all = all;
            this.misaligned = misaligned;
            this.fault = fault;
            this.guestFault = guestFault;
            this.outside = outside;
        }

        int causeOf(long verdict) {
            if (verdict == FAULT) {
                return fault;
            }
            return verdict == GUEST_FAULT ? guestFault : outside;
        }

        int anyWith(boolean executable) {
            return this == LOAD && executable ? any | X : any;
        }
    }

    /** TRANSLATION. Addresses between the stages have 34 bits and are long; below 0 they are verdicts. */
    private static final class Translator {
        final Memory memory = new Memory(FRAMES);
        final Controls controls = new Controls();
        final Trap trap = new Trap();

        /** Where in memory an address leads; below 0, with the exception in the trap, if nowhere. */
        int translate(int address, int width, Access access, int mode) {
            if ((address & (1 << width) - 1) != 0) {
                trap.raise(access.misaligned, address);
                return NONE;
            }
            boolean virtual = isVirtual(mode);
            Bank bank = virtual ? controls.vs : controls.s;
            int any = access.anyWith(((bank.status | controls.s.status) & STATUS_MXR) != 0);
            int all = isSupervisor(mode) ? access.all : access.all | USER;
            boolean eitherWay = access != Access.FETCH && (bank.status & STATUS_SUM) != 0;
            int none = isSupervisor(mode) && !eitherWay ? USER : 0;
            long from = address & NO_SIGN;
            long place = virtual ? firstStage(from, any, all, none) : walk(bank.atp, from, any, all, none);
            if (virtual && place >= 0) {
                place = secondStage(place, access);
            }
            if (place < 0) {
                trap.raise(access.causeOf(place), address);
            }
            return (int) place;
        }

        private long firstStage(long address, int any, int all, int none) {
            int atp = controls.vs.atp;
            if (atp >= 0) {
                return address;
            }
            long guest = firstPlace(atp, address);
            for (int level = 0; level < LEVELS; level++) {
                long place = walk(controls.hgatp, guest, R, V | A | USER, 0);
                if (place < 0) {
                    return guestVerdict(place, guest, ENTRY_PLACE);
                }
                int entry = memory.readWord((int) place);
                if (isLeaf(entry)) {
                    return allows(entry, level, any, all, none) ? result(entry, level, address) : FAULT;
                }
                if (!isPointer(entry)) {
                    return FAULT;
                }
                guest = nextPlace(entry, address);
            }
            return FAULT;
        }

        private long secondStage(long guest, Access access) {
            int any = access.anyWith((controls.s.status & STATUS_MXR) != 0);
            long place = walk(controls.hgatp, guest, any, access.all | USER, 0);
            return place < 0 ? guestVerdict(place, guest, 0) : place;
        }

        private long guestVerdict(long verdict, long guest, int inst) {
            if (verdict != FAULT) {
                return verdict;
            }
            trap.guest = (int) (guest >>> 2);
            trap.inst = inst;
            return GUEST_FAULT;
        }

        /** A WALK by tables whose places are those of memory. */
        private long walk(int atp, long address, int any, int all, int none) {
            if (atp >= 0) {
                return inMemory(address);
            }
            long place = firstPlace(atp, address);
            for (int level = 0; level < LEVELS; level++) {
                if (place >= MEMORY_BYTES) {
                    return OUTSIDE;
                }
                int entry = memory.readWord((int) place);
                if (isLeaf(entry)) {
                    return allows(entry, level, any, all, none) ? inMemory(result(entry, level, address)) : FAULT;
                }
                if (!isPointer(entry)) {
                    return FAULT;
                }
                place = nextPlace(entry, address);
            }
            return FAULT;
        }

        private static long inMemory(long place) {
            return place < MEMORY_BYTES ? place : OUTSIDE;
        }

        private static long firstPlace(int atp, long address) {
            return ((long) (atp & ROOT) << FRAME_BITS) + 4 * (address >>> 22);
        }

        private static long nextPlace(int entry, long address) {
            return ((long) (entry >>> 10) << FRAME_BITS) + 4 * (address >>> FRAME_BITS & 0x3ff);
        }

        private static boolean isLeaf(int entry) {
            return (entry & (R | W | X)) != 0;
        }

        private static boolean isPointer(int entry) {
            return (entry & (V | USER | A | D)) == V;
        }

        private static boolean allows(int leaf, int level, int any, int all, int none) {
            boolean wellFormed = (leaf & (R | W)) != W && (level != 0 || (leaf & LOW_FRAME) == 0);
            return wellFormed && (leaf & any) != 0 && (leaf & all) == all && (leaf & none) == 0;
        }

        private static long result(int leaf, int level, long address) {
            long within = address & (level == 0 ? 0x3fffff : FRAME_BYTES - 1);
            return (long) (leaf >>> 10) << FRAME_BITS | within;
        }
    }

    /** The fields of an instruction's word. */
    private static final class Fields {
        static int op(int word) {
            return word & 127;
        }

        static int d(int word) {
            return word >>> 7 & 31;
        }

        static int f(int word) {
            return word >>> 12 & 7;
        }

        static int a(int word) {
            return word >>> 15 & 31;
        }

        static int b(int word) {
            return word >>> 20 & 31;
        }

        static int g(int word) {
            return word >>> 25;
        }

        static int immediate(int word) {
            return word >> 20;
        }

        static int storeOffset(int word) {
            return word >> 25 << 5 | d(word);
        }

        static int branchOffset(int word) {
            return word >> 31 << 12 | (word >>> 7 & 1) << 11 | (word >>> 25 & 63) << 5 | (word >>> 8 & 15) << 1;
        }

        static int jumpOffset(int word) {
            return word >> 31 << 20 | word & 0xff000 | (word >>> 20 & 1) << 11 | (word >>> 21 & 0x3ff) << 1;
        }

        static int upper(int word) {
            return word & 0xfffff000;
        }
    }

    /** What two numbers make, by the field f. */
    private static final class Arithmetic {
        static boolean lessNoSign(int p, int q) {
            return (p & NO_SIGN) < (q & NO_SIGN);
        }

        static int combine(int f, int p, int q) {
            switch (f) {
                case 0: return p + q;
                case 1: return p << (q & 31);
                case 2: return p < q ? 1 : 0;
                case 3: return lessNoSign(p, q) ? 1 : 0;
                case 4: return p ^ q;
                case 5: return p >>> (q & 31);
                case 6: return p | q;
                default: return p & q;
            }
        }

        static int multiply(int f, int p, int q) {
            switch (f) {
                case 0: return p * q;
                case 1: return (int) ((long) p * q >> 32);
                case 2: return (int) (p * (q & NO_SIGN) >> 32);
                default: return (int) ((p & NO_SIGN) * (q & NO_SIGN) >>> 32);
            }
        }

        static int divide(int f, int p, int q) {
            boolean wantsRest = f >= 6;
            if (q == 0) {
                return wantsRest ? p : -1;
            }
            // In long, as in int the least number by -1 would not fit.
            boolean noSign = (f & 1) != 0;
            long dividend = noSign ? p & NO_SIGN : p;
            long divisor = noSign ? q & NO_SIGN : q;
            return (int) (wantsRest ? dividend % divisor : dividend / divisor);
        }

        static boolean isComparison(int f) {
            return f != 2 && f != 3;
        }

        static boolean holds(int f, int p, int q) {
            boolean odd = (f & 1) != 0;
            if (f < 4) {
                return (p == q) != odd;
            }
            return (f < 6 ? p < q : lessNoSign(p, q)) != odd;
        }
    }

    /** Registers, modes and STEPS. A step is startStep, perform if there is an instruction, endStep. */
    private static final class Core {
        final int[] x = new int[REGISTERS];
        final Memory console = new Memory(CONSOLE_BYTES / FRAME_BYTES);
        final Translator translator;
        final Memory memory;
        final Controls controls;
        private final Trap trap;
        int consoleSize;
        int pc;
        int mode;
        boolean off;
        int trapsToS;
        int trapsToVs;
        int interrupts;
        private int next;
        private int word;

        Core() {
            translator = new Translator();
            memory = translator.memory;
            controls = translator.controls;
            trap = translator.trap;
        }

        void reset() {
            Arrays.fill(x, 0);
            console.clear();
            memory.clear();
            controls.clear();
            consoleSize = 0;
            pc = 0;
            mode = MODE_S;
            off = false;
            trapsToS = 0;
            trapsToVs = 0;
            interrupts = 0;
        }

        void put(int n, int v) {
            if (n != 0) {
                x[n] = v;
            }
        }

        /** Whether an instruction was fetched; else the trap tells why not. */
        boolean startStep() {
            trap.clear();
            if (interrupted()) {
                return false;
            }
            int from = translator.translate(pc, WORD, Access.FETCH, mode);
            if (from < 0) {
                return false;
            }
            word = memory.readWord(from);
            next = pc + 4;
            return true;
        }

        private boolean interrupted() {
            int forS = controls.dueForS(mode);
            if (forS != NONE) {
                trap.raise(INTERRUPT | forS, 0);
                return true;
            }
            int forVs = controls.dueForVs(mode);
            if (forVs != NONE) {
                trap.raise(INTERRUPT | (forVs - 1), 0);
                trap.interruptForVs = true;
                return true;
            }
            return false;
        }

        void endStep() {
            if (trap.cause == NONE) {
                pc = next;
            } else {
                takeTrap();
            }
            controls.time++;
        }

        private void takeTrap() {
            boolean fromSupervisor = isSupervisor(mode);
            if (trap.cause < 0) {
                interrupts++;
            }
            if (trap.goesToVs(mode, controls.hedeleg)) {
                trapsToVs++;
                pc = controls.vs.enter(pc, trap.cause, trap.tval, fromSupervisor);
                mode = MODE_VS;
            } else {
                trapsToS++;
                controls.noteTrap(trap, mode);
                pc = controls.s.enter(pc, trap.cause, trap.tval, fromSupervisor);
                mode = MODE_S;
            }
        }

        void perform() {
            int f = Fields.f(word);
            switch (Fields.op(word)) {
                case 3: loadOp(); break;
                case 15: fenceOp(); break;
                case 19: immediateOp(); break;
                case 23: put(Fields.d(word), pc + Fields.upper(word)); break;
                case 35: storeOp(); break;
                case 51: registerOp(); break;
                case 55: put(Fields.d(word), Fields.upper(word)); break;
                case 99: branchOp(); break;
                case 103: jumpToRegisterOp(); break;
                case 111: jump(pc + Fields.jumpOffset(word), Fields.d(word)); break;
                case 115:
                    if (f == 0) {
                        systemOp();
                    } else if (f == 4) {
                        guestOp();
                    } else {
                        controlOp(f);
                    }
                    break;
                default: refuse(ILLEGAL); break;
            }
        }

        private void refuse(int cause) {
            trap.raise(cause, word);
        }

        /** On at a target, with the way back in a register, which x0 loses. */
        private void jump(int target, int back) {
            if ((target & 3) != 0) {
                trap.raise(PLACE_EXCEPTION, target);
                return;
            }
            next = target;
            put(back, pc + 4);
        }

        private void jumpToRegisterOp() {
            if (Fields.f(word) != 0) {
                refuse(ILLEGAL);
                return;
            }
            jump(x[Fields.a(word)] + Fields.immediate(word) & ~1, Fields.d(word));
        }

        private void branchOp() {
            int f = Fields.f(word);
            if (!Arithmetic.isComparison(f)) {
                refuse(ILLEGAL);
            } else if (Arithmetic.holds(f, x[Fields.a(word)], x[Fields.b(word)])) {
                jump(pc + Fields.branchOffset(word), 0);
            }
        }

        private void fenceOp() {
            if (Fields.f(word) > 1) {
                refuse(ILLEGAL);
            }
        }

        private void immediateOp() {
            int f = Fields.f(word);
            int g = Fields.g(word);
            int p = x[Fields.a(word)];
            if (f == 5 && g == 32) {
                put(Fields.d(word), p >> Fields.b(word));
            } else if ((f == 1 || f == 5) && g != 0) {
                refuse(ILLEGAL);
            } else {
                put(Fields.d(word), Arithmetic.combine(f, p, Fields.immediate(word)));
            }
        }

        private void registerOp() {
            int f = Fields.f(word);
            int g = Fields.g(word);
            int d = Fields.d(word);
            int p = x[Fields.a(word)];
            int q = x[Fields.b(word)];
            if (g == 0) {
                put(d, Arithmetic.combine(f, p, q));
            } else if (g == 1) {
                put(d, f < 4 ? Arithmetic.multiply(f, p, q) : Arithmetic.divide(f, p, q));
            } else if (g == 32 && f == 0) {
                put(d, p - q);
            } else if (g == 32 && f == 5) {
                put(d, p >> (q & 31));
            } else {
                refuse(ILLEGAL);
            }
        }

        private void loadOp() {
            int f = Fields.f(word);
            if (f == 3 || f > 5) {
                refuse(ILLEGAL);
                return;
            }
            load(x[Fields.a(word)] + Fields.immediate(word), f & 3, f > 3, Access.LOAD, mode);
        }

        private void storeOp() {
            int f = Fields.f(word);
            if (f > WORD) {
                refuse(ILLEGAL);
                return;
            }
            store(x[Fields.a(word)] + Fields.storeOffset(word), f, mode);
        }

        private void load(int address, int width, boolean noSign, Access access, int asMode) {
            int from = translator.translate(address, width, access, asMode);
            if (from < 0) {
                return;
            }
            int v = memory.read(from, width);
            put(Fields.d(word), noSign && width != WORD ? v & (width == BYTE ? 0xff : 0xffff) : v);
        }

        private void store(int address, int width, int asMode) {
            int to = translator.translate(address, width, Access.STORE, asMode);
            if (to >= 0) {
                memory.write(to, width, x[Fields.b(word)]);
            }
        }

        private void controlOp(int f) {
            int a = Fields.a(word);
            int number = word >>> 20;
            boolean write = (f & 3) == 1 || a != 0;
            int refusal = controls.refusal(number, write, mode);
            if (refusal != NONE) {
                refuse(refusal);
                return;
            }
            int meant = Controls.meant(number, mode);
            int before = controls.tell(meant);
            int v = f > 4 ? a : x[a];
            if (write) {
                controls.write(meant, changed(f & 3, before, v));
            }
            put(Fields.d(word), before);
        }

        private static int changed(int way, int before, int v) {
            if (way == 1) {
                return v;
            }
            return way == 2 ? before | v : before & ~v;
        }

        private void systemOp() {
            int g = Fields.g(word);
            if (Fields.d(word) != 0) {
                refuse(ILLEGAL);
            } else if (g == 9) {
                mayDo(isSet(VTVM));
            } else if (g == 17 || g == 49) {
                mayDo(true);
            } else if (Fields.a(word) != 0) {
                refuse(ILLEGAL);
            } else {
                switch (word >>> 20) {
                    case 0: environmentCall(); break;
                    case 1: trap.raise(BREAK, pc); break;
                    case 258: returnFromTrap(); break;
                    case 261: mayDo(isSet(VTW)); break;
                    default: refuse(ILLEGAL); break;
                }
            }
        }

        private boolean isSet(int hstatusBit) {
            return (controls.hstatus & hstatusBit) != 0;
        }

        /** Whether the mode allows a supervisor's instruction; if not, that is the exception. */
        private boolean mayDo(boolean barredInVs) {
            if (mode == MODE_S || mode == MODE_VS && !barredInVs) {
                return true;
            }
            refuse(mode == MODE_U ? ILLEGAL : VIRTUAL);
            return false;
        }

        /** In S the FIRMWARE answers, which is no trap. */
        private void environmentCall() {
            if (mode != MODE_S) {
                trap.raise(mode == MODE_VS ? CALL_OF_VS : CALL_OF_USER, 0);
                return;
            }
            int answer = 0;
            switch (x[17]) {
                case CALL_ALARM: setAlarm(x[11], x[10]); break;
                case CALL_CONSOLE: print(x[10]); break;
                case CALL_OFF: off = true; break;
                default: answer = UNKNOWN_CALL; break;
            }
            x[10] = answer;
        }

        private void setAlarm(int upper, int lower) {
            long at = (long) upper << 32 | lower & NO_SIGN;
            controls.alarm = at < 0 ? NEVER : at;
        }

        private void print(int v) {
            if (consoleSize < CONSOLE_BYTES) {
                console.write(consoleSize, BYTE, v);
                consoleSize++;
            }
        }

        private void returnFromTrap() {
            if (!mayDo(isSet(VTSR))) {
                return;
            }
            boolean toVirtual = mode == MODE_VS || isSet(SPV);
            Bank bank = mode == MODE_VS ? controls.vs : controls.s;
            if (mode == MODE_S) {
                controls.hstatus &= ~SPV;
            }
            boolean toSupervisor = bank.leave();
            next = bank.epc;
            mode = (toVirtual ? MODE_VU : MODE_U) + (toSupervisor ? 1 : 0);
        }

        /** Op 115 with f 4: a load or store of S or U as if it came from VS or VU. */
        private void guestOp() {
            int g = Fields.g(word);
            int b = Fields.b(word);
            if (!isGuestForm(g, b, Fields.d(word)) || mode == MODE_U && !isSet(HU)) {
                refuse(ILLEGAL);
            } else if (isVirtual(mode)) {
                refuse(VIRTUAL);
            } else {
                trap.asGuest = true;
                int asMode = isSet(SPVP) ? MODE_VS : MODE_VU;
                int width = g - 48 >> 1;
                int address = x[Fields.a(word)];
                if ((g & 1) != 0) {
                    store(address, width, asMode);
                } else {
                    load(address, width, b != 0, b == 3 ? Access.LOAD_FOR_EXECUTION : Access.LOAD, asMode);
                }
            }
        }

        private static boolean isGuestForm(int g, int b, int d) {
            switch (g) {
                case 48: return b == 0 || b == 1;
                case 50: return b == 0 || b == 1 || b == 3;
                case 52: return b == 0 || b == 3;
                case 49: case 51: case 53: return d == 0;
                default: return false;
            }
        }
    }
}
