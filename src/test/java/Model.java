import java.util.Map;
import java.util.TreeMap;
import java.util.function.IntPredicate;
import java.util.function.LongUnaryOperator;

/**
 * The document once more, said as literally as Java allows and with no thought of speed or room: what
 * HyperHost is compared with, step by step. It shares nothing with the program.
 */
final class Model {
    private static final int U = 0;
    private static final int S = 1;
    private static final int VU = 2;
    private static final int VS = 3;

    /** What is asked of an address. */
    private enum Ask {
        FETCH, LOAD, STORE, EXECUTION;

        int of(int fetch, int load, int store) {
            return this == FETCH ? fetch : this == STORE ? store : load;
        }
    }

    private static final class Stop extends RuntimeException {
        private static final long serialVersionUID = 1L;
        final int number;
        final int tval;
        final long second;
        final boolean entry;

        Stop(int number, int tval, long second, boolean entry) {
            super(null, null, false, false);
            this.number = number;
            this.tval = tval;
            this.second = second;
            this.entry = entry;
        }

        Stop(int number, int tval) {
            this(number, tval, 0, false);
        }
    }

    private static final class Fault extends RuntimeException {
        private static final long serialVersionUID = 1L;

        Fault() {
            super(null, null, false, false);
        }
    }

    final byte[] memory = new byte[262144];
    final int[] x = new int[32];
    final Map<Integer, Integer> controls = new TreeMap<>();
    final StringBuilder console = new StringBuilder();
    int pc;
    int mode = S;
    long time;
    long alarm = Long.MAX_VALUE;
    boolean line;
    boolean off;
    int toS;
    int toVs;
    int interrupts;
    private boolean asGuest;

    Model() {
        for (int number : Rig.S_NUMBERS) {
            controls.put(number, 0);
        }
        for (int number : Rig.VS_NUMBERS) {
            controls.put(number, 0);
        }
        for (int number : Rig.H_NUMBERS) {
            controls.put(number, 0);
        }
    }

    // Memory

    int word(int address) {
        int v = 0;
        for (int i = 3; i >= 0; i--) {
            v = v << 8 | memory[address + i] & 255;
        }
        return v;
    }

    void putWord(int address, int v) {
        for (int i = 0; i < 4; i++) {
            memory[address + i] = (byte) (v >> 8 * i);
        }
    }

    int sum() {
        int sum = 1;
        for (int address = 0; address < memory.length; address += 4) {
            sum = 31 * sum + word(address);
        }
        return sum;
    }

    // Control registers

    private boolean bit(int number, int n) {
        return (controls.get(number) >> n & 1) == 1;
    }

    private void setBit(int number, int n, boolean on) {
        int v = controls.get(number);
        controls.put(number, on ? v | 1 << n : v & ~(1 << n));
    }

    int tell(int number) {
        switch (number) {
            case Rig.TIME: return (int) time;
            case Rig.TIME_UPPER: return (int) (time >> 32);
            case Rig.IP: return (bit(Rig.IP, 1) ? 2 : 0) + (time >= alarm ? 32 : 0) + (line ? 512 : 0);
            case Rig.HIP: return controls.get(Rig.HVIP);
            case Rig.VIP: return (controls.get(Rig.HVIP) & controls.get(Rig.HIDELEG)) / 2;
            case Rig.VIE: return (controls.get(Rig.HIE) & controls.get(Rig.HIDELEG)) / 2;
            default: return controls.getOrDefault(number, 0);
        }
    }

    void write(int number, int v) {
        switch (number) {
            case Rig.STATUS: case Rig.VSTATUS: controls.put(number, only(v, 1, 5, 8, 18, 19)); break;
            case Rig.HSTATUS: controls.put(number, only(v, 6, 7, 8, 9, 20, 21, 22)); break;
            case Rig.IE: controls.put(number, only(v, 1, 5, 9)); break;
            case Rig.TVEC: case Rig.VTVEC: controls.put(number, v - only(v, 1)); break;
            case Rig.EPC: case Rig.VEPC: controls.put(number, v - only(v, 0, 1)); break;
            case Rig.ATP: case Rig.VATP: controls.put(number, v & 0x803fffff); break;
            case Rig.HGATP: controls.put(number, v & 0x803ffffc); break;
            case Rig.HEDELEG: controls.put(number, only(v, 0, 1, 2, 3, 4, 5, 6, 7, 8, 12, 13, 15)); break;
            case Rig.HIDELEG: case Rig.HIE: case Rig.HVIP: controls.put(number, only(v, 2, 6, 10)); break;
            case Rig.HIP: setBit(Rig.HVIP, 2, (v >> 2 & 1) == 1); break;
            case Rig.IP: setBit(Rig.IP, 1, (v >> 1 & 1) == 1); break;
            case Rig.VIP:
                if (bit(Rig.HIDELEG, 2)) {
                    setBit(Rig.HVIP, 2, (v >> 1 & 1) == 1);
                }
                break;
            case Rig.VIE:
                for (int n : new int[] {1, 5, 9}) {
                    if (bit(Rig.HIDELEG, n + 1)) {
                        setBit(Rig.HIE, n + 1, (v >> n & 1) == 1);
                    }
                }
                break;
            default: controls.put(number, v); break;
        }
    }

    private static int only(int v, int... bits) {
        int kept = 0;
        for (int n : bits) {
            kept |= v & 1 << n;
        }
        return kept;
    }

    private static boolean among(int number, int[] numbers) {
        for (int one : numbers) {
            if (one == number) {
                return true;
            }
        }
        return false;
    }

    // Steps

    void step() {
        asGuest = false;
        int before = mode;
        int from = pc;
        if (!interrupt()) {
            try {
                int word = word((int) translate(Ask.FETCH, pc, 4, mode));
                pc = perform(word);
            } catch (Stop stop) {
                exception(stop, from, before);
            }
        }
        time++;
    }

    private boolean interrupt() {
        if (mode != S || bit(Rig.STATUS, 1)) {
            for (int n : new int[] {9, 1, 5, 10, 2, 6}) {
                boolean own = (tell(Rig.IP) & tell(Rig.IE) & 1 << n) != 0;
                boolean passed = bit(Rig.HVIP, n) && bit(Rig.HIE, n) && !bit(Rig.HIDELEG, n);
                if (own || passed) {
                    interrupts++;
                    toS(1 << 31 | n, n, 0, 0, false, false);
                    return true;
                }
            }
        }
        if (mode == VU || mode == VS && bit(Rig.VSTATUS, 1)) {
            for (int n : new int[] {10, 2, 6}) {
                if (bit(Rig.HVIP, n) && bit(Rig.HIE, n) && bit(Rig.HIDELEG, n)) {
                    interrupts++;
                    toVs(1 << 31 | n - 1, n - 1, 0);
                    return true;
                }
            }
        }
        return false;
    }

    private void exception(Stop stop, int from, int before) {
        pc = from;
        mode = before;
        boolean virtual = mode == VU || mode == VS;
        if (virtual && stop.number < 32 && bit(Rig.HEDELEG, stop.number)) {
            toVs(stop.number, 0, stop.tval);
            return;
        }
        boolean address = among(stop.number, new int[] {0, 1, 3, 4, 5, 6, 7, 12, 13, 15, 20, 21, 23});
        toS(stop.number, 0, stop.tval, stop.second, stop.entry, address && (virtual || asGuest));
    }

    private void toS(int cause, int places, int tval, long second, boolean entry, boolean gva) {
        toS++;
        enter(0, cause, places, tval);
        boolean virtual = mode == VU || mode == VS;
        setBit(Rig.HSTATUS, 7, virtual);
        if (virtual) {
            setBit(Rig.HSTATUS, 8, mode == VS);
        }
        setBit(Rig.HSTATUS, 6, gva);
        controls.put(Rig.HTVAL, (int) (second / 4));
        controls.put(Rig.HTINST, entry ? 0x2000 : 0);
        mode = S;
    }

    private void toVs(int cause, int places, int tval) {
        toVs++;
        enter(0x100, cause, places, tval);
        mode = VS;
    }

    private void enter(int kind, int cause, int places, int tval) {
        controls.put(kind + Rig.EPC, pc);
        controls.put(kind + Rig.CAUSE, cause);
        controls.put(kind + Rig.TVAL, tval);
        setBit(kind + Rig.STATUS, 5, bit(kind + Rig.STATUS, 1));
        setBit(kind + Rig.STATUS, 1, false);
        setBit(kind + Rig.STATUS, 8, mode == S || mode == VS);
        pc = controls.get(kind + Rig.TVEC) & -4;
        if (bit(kind + Rig.TVEC, 0)) {
            pc += 4 * places;
        }
    }

    // Instructions

    private static int bits(int word, int high, int low) {
        return (int) ((word & 0xffffffffL) >> low & (1L << high - low + 1) - 1);
    }

    private static int signed(int v, int width) {
        return v >= 1 << width - 1 ? v - (1 << width) : v;
    }

    private void put(int d, int v) {
        x[d] = v;
        x[0] = 0;
    }

    private static void need(boolean right, int word) {
        if (!right) {
            throw new Stop(2, word);
        }
    }

    private int goOn(int target) {
        if (target % 4 != 0) {
            throw new Stop(0, target);
        }
        return target;
    }

    /** Does the instruction: the PC to go on at. */
    private int perform(int word) {
        int op = bits(word, 6, 0);
        int d = bits(word, 11, 7);
        int f = bits(word, 14, 12);
        int a = bits(word, 19, 15);
        int b = bits(word, 24, 20);
        int g = bits(word, 31, 25);
        int immediate = signed(bits(word, 31, 20), 12);
        int back = pc + 4;
        switch (op) {
            case 55:
                put(d, bits(word, 31, 12) << 12);
                return back;
            case 23:
                put(d, pc + (bits(word, 31, 12) << 12));
                return back;
            case 111: {
                int j = bits(word, 31, 31) << 20 | bits(word, 19, 12) << 12 | bits(word, 20, 20) << 11
                        | bits(word, 30, 21) << 1;
                int target = goOn(pc + signed(j, 21));
                put(d, back);
                return target;
            }
            case 103: {
                need(f == 0, word);
                int target = goOn(x[a] + immediate & -2);
                put(d, back);
                return target;
            }
            case 99: {
                need(f != 2 && f != 3, word);
                int j = bits(word, 31, 31) << 12 | bits(word, 7, 7) << 11 | bits(word, 30, 25) << 5
                        | bits(word, 11, 8) << 1;
                return taken(f, x[a], x[b]) ? goOn(pc + signed(j, 13)) : back;
            }
            case 3:
                need(f != 3 && f < 6, word);
                put(d, load(x[a] + immediate, f, Ask.LOAD, mode));
                return back;
            case 35:
                need(f < 3, word);
                store(x[a] + signed(g << 5 | d, 12), f, x[b], mode);
                return back;
            case 15:
                need(f < 2, word);
                return back;
            case 19:
                need(f != 1 && f != 5 || g == 0 || f == 5 && g == 32, word);
                put(d, f == 5 && g == 32 ? x[a] >> b : plain(f, x[a], f == 1 || f == 5 ? b : immediate));
                return back;
            case 51:
                need(g == 0 || g == 1 || g == 32 && (f == 0 || f == 5), word);
                put(d, g == 0 ? plain(f, x[a], x[b]) : g == 1 ? product(f, x[a], x[b])
                        : f == 0 ? x[a] - x[b] : x[a] >> (x[b] & 31));
                return back;
            case 115:
                return system(word, d, f, a, b, g);
            default:
                throw new Stop(2, word);
        }
    }

    private static boolean taken(int f, int p, int q) {
        switch (f) {
            case 0: return p == q;
            case 1: return p != q;
            case 4: return p < q;
            case 5: return p >= q;
            case 6: return Integer.compareUnsigned(p, q) < 0;
            default: return Integer.compareUnsigned(p, q) >= 0;
        }
    }

    private static int plain(int f, int p, int q) {
        switch (f) {
            case 0: return p + q;
            case 1: return p << (q & 31);
            case 2: return p < q ? 1 : 0;
            case 3: return Integer.compareUnsigned(p, q) < 0 ? 1 : 0;
            case 4: return p ^ q;
            case 5: return p >>> (q & 31);
            case 6: return p | q;
            default: return p & q;
        }
    }

    private static int product(int f, int p, int q) {
        java.math.BigInteger sp = java.math.BigInteger.valueOf(p);
        java.math.BigInteger sq = java.math.BigInteger.valueOf(q);
        java.math.BigInteger up = java.math.BigInteger.valueOf(Integer.toUnsignedLong(p));
        java.math.BigInteger uq = java.math.BigInteger.valueOf(Integer.toUnsignedLong(q));
        switch (f) {
            case 0: return p * q;
            case 1: return sp.multiply(sq).shiftRight(32).intValue();
            case 2: return sp.multiply(uq).shiftRight(32).intValue();
            case 3: return up.multiply(uq).shiftRight(32).intValue();
            case 4: return q == 0 ? -1 : sp.divide(sq).intValue();
            case 5: return q == 0 ? -1 : Integer.divideUnsigned(p, q);
            case 6: return q == 0 ? p : sp.remainder(sq).intValue();
            default: return q == 0 ? p : Integer.remainderUnsigned(p, q);
        }
    }

    private int load(int address, int f, Ask ask, int as) {
        int size = 1 << f % 4;
        int place = (int) translate(ask, address, size, as);
        int v = 0;
        for (int i = size - 1; i >= 0; i--) {
            v = v << 8 | memory[place + i] & 255;
        }
        return f == 0 ? (byte) v : f == 1 ? (short) v : v;
    }

    private void store(int address, int f, int v, int as) {
        int size = 1 << f;
        int place = (int) translate(Ask.STORE, address, size, as);
        for (int i = 0; i < size; i++) {
            memory[place + i] = (byte) (v >> 8 * i);
        }
    }

    private int system(int word, int d, int f, int a, int b, int g) {
        if (f == 4) {
            guest(word, d, a, b, g);
        } else if (f != 0) {
            controlInstruction(word, d, f, a);
        } else {
            need(d == 0, word);
            boolean fence = g == 9 || g == 17 || g == 49;
            need(fence || a == 0, word);
            int number = bits(word, 31, 20);
            if (fence) {
                supervisor(word, g == 9 ? bit(Rig.HSTATUS, 20) : true);
            } else if (number == 0) {
                call();
            } else if (number == 1) {
                throw new Stop(3, pc);
            } else if (number == 261) {
                supervisor(word, bit(Rig.HSTATUS, 21));
            } else if (number == 258) {
                supervisor(word, bit(Rig.HSTATUS, 22));
                return leave();
            } else {
                throw new Stop(2, word);
            }
        }
        return pc + 4;
    }

    private void supervisor(int word, boolean barred) {
        if (mode == U) {
            throw new Stop(2, word);
        }
        if (mode == VU || mode == VS && barred) {
            throw new Stop(22, word);
        }
    }

    private void call() {
        if (mode == U || mode == VU) {
            throw new Stop(8, 0);
        }
        if (mode == VS) {
            throw new Stop(10, 0);
        }
        if (x[17] == 0) {
            alarm = Integer.toUnsignedLong(x[11]) << 32 | Integer.toUnsignedLong(x[10]);
            alarm = alarm < 0 ? Long.MAX_VALUE : alarm;
        } else if (x[17] == 1) {
            if (console.length() < 4096) {
                console.append((char) (x[10] & 255));
            }
        } else if (x[17] == 8) {
            off = true;
        } else {
            x[10] = -2;
            return;
        }
        x[10] = 0;
    }

    private int leave() {
        int kind = mode == VS ? 0x100 : 0;
        int pp = bit(kind + Rig.STATUS, 8) ? 1 : 0;
        if (mode == VS) {
            mode = 2 + pp;
        } else {
            mode = (bit(Rig.HSTATUS, 7) ? 2 : 0) + pp;
            setBit(Rig.HSTATUS, 7, false);
        }
        setBit(kind + Rig.STATUS, 1, bit(kind + Rig.STATUS, 5));
        setBit(kind + Rig.STATUS, 5, true);
        setBit(kind + Rig.STATUS, 8, false);
        return controls.get(kind + Rig.EPC);
    }

    private void controlInstruction(int word, int d, int f, int a) {
        int number = bits(word, 31, 20);
        boolean writes = f == 1 || f == 5 || a != 0;
        boolean clock = number == Rig.TIME || number == Rig.TIME_UPPER;
        need(clock || controls.containsKey(number), word);
        need(!(clock && writes), word);
        boolean ofS = among(number, Rig.S_NUMBERS);
        if (!clock && mode == U) {
            throw new Stop(2, word);
        }
        if (!clock && mode == VU) {
            throw new Stop(22, word);
        }
        if (!clock && mode == VS && (!ofS || number == Rig.ATP && bit(Rig.HSTATUS, 20))) {
            throw new Stop(22, word);
        }
        int meant = mode == VS && ofS ? number + 0x100 : number;
        int was = tell(meant);
        int v = f > 4 ? a : x[a];
        if (writes) {
            write(meant, f % 4 == 1 ? v : f % 4 == 2 ? was | v : was & ~v);
        }
        put(d, was);
    }

    private void guest(int word, int d, int a, int b, int g) {
        boolean loads = (g == 48 || g == 50) && b < 2 || g == 52 && b == 0;
        boolean executes = (g == 50 || g == 52) && b == 3;
        boolean stores = (g == 49 || g == 51 || g == 53) && d == 0;
        need(loads || executes || stores, word);
        if (mode == VS || mode == VU) {
            throw new Stop(22, word);
        }
        need(mode == S || bit(Rig.HSTATUS, 9), word);
        asGuest = true;
        int as = bit(Rig.HSTATUS, 8) ? VS : VU;
        if (stores) {
            store(x[a], g / 2 - 24, x[b], as);
        } else {
            int f = g / 2 - 24;
            put(d, load(x[a], f == 2 || b == 0 ? f : f + 4, executes ? Ask.EXECUTION : Ask.LOAD, as));
        }
    }

    // Translation

    private long translate(Ask ask, int address, int size, int as) {
        if (address % size != 0) {
            throw new Stop(ask.of(0, 4, 6), address);
        }
        boolean virtual = as == VU || as == VS;
        long from = Integer.toUnsignedLong(address);
        int kind = virtual ? 0x100 : 0;
        boolean user = as == U || as == VU;
        boolean sum = bit(kind + Rig.STATUS, 18) && ask != Ask.FETCH;
        boolean mxr = bit(Rig.STATUS, 19) || virtual && bit(Rig.VSTATUS, 19);
        IntPredicate mayUse = leaf -> user ? has(leaf, 4) : sum || !has(leaf, 4);
        LongUnaryOperator entries =
            place -> virtual ? second(ask, address, place, true) : inMemory(ask, address, place);
        long result = from;
        if (bit(kind + Rig.ATP, 31)) {
            long root = controls.get(kind + Rig.ATP) & (1 << 22) - 1;
            try {
                result = walk(root, from, entries, leaf -> allows(leaf, ask, mxr) && mayUse.test(leaf));
            } catch (Fault fault) {
                throw new Stop(ask.of(12, 13, 15), address);
            }
        }
        return virtual ? second(ask, address, result, false) : inMemory(ask, address, result);
    }

    private long second(Ask asked, int address, long place, boolean entry) {
        Ask ask = entry ? Ask.LOAD : asked;
        boolean mxr = !entry && bit(Rig.STATUS, 19);
        long result = place;
        if (bit(Rig.HGATP, 31)) {
            long root = controls.get(Rig.HGATP) & 0x3ffffc;
            try {
                result = walk(root, place, at -> inMemory(asked, address, at),
                        leaf -> allows(leaf, ask, mxr) && has(leaf, 4));
            } catch (Fault fault) {
                throw new Stop(asked.of(20, 21, 23), address, place, entry);
            }
        }
        return inMemory(asked, address, result);
    }

    private long inMemory(Ask ask, int address, long place) {
        if (place >= memory.length) {
            throw new Stop(ask.of(1, 5, 7), address);
        }
        return place;
    }

    private static boolean has(int entry, int n) {
        return (entry >> n & 1) == 1;
    }

    private static boolean allows(int leaf, Ask ask, boolean mxr) {
        boolean kind;
        switch (ask) {
            case FETCH: case EXECUTION: kind = has(leaf, 3); break;
            case LOAD: kind = has(leaf, 1) || mxr && has(leaf, 3); break;
            default: kind = has(leaf, 2) && has(leaf, 7); break;
        }
        return kind && has(leaf, 6);
    }

    private static void right(boolean fine) {
        if (!fine) {
            throw new Fault();
        }
    }

    private static boolean isLeaf(int entry) {
        return has(entry, 1) || has(entry, 2) || has(entry, 3);
    }

    private int entryAt(long place) {
        int entry = word((int) place);
        right(has(entry, 0));
        right(!has(entry, 2) || has(entry, 1));
        return entry;
    }

    private long walk(long root, long address, LongUnaryOperator entries, IntPredicate allows) {
        int entry = entryAt(entries.applyAsLong(root * 4096 + 4 * (address >> 22)));
        if (isLeaf(entry)) {
            right(bits(entry, 19, 10) == 0);
            right(allows.test(entry));
            return ((long) bits(entry, 31, 20) << 22) + address % (1 << 22);
        }
        right(!has(entry, 4) && !has(entry, 6) && !has(entry, 7));
        long table = 4096L * bits(entry, 31, 10);
        entry = entryAt(entries.applyAsLong(table + 4 * (address >> 12 & 1023)));
        right(isLeaf(entry));
        right(allows.test(entry));
        return 4096L * bits(entry, 31, 10) + address % 4096;
    }
}
