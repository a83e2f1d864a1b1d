/** A new machine with hands to set it up. It lives for 512 calls, as the document has it. */
final class Rig {
    static final int U = 0;
    static final int S = 1;
    static final int VU = 2;
    static final int VS = 3;

    static final int MEMORY = 262144;
    static final int MOST_CALLS = 512;

    static final int STATUS = 0x100;
    static final int IE = 0x104;
    static final int TVEC = 0x105;
    static final int SCRATCH = 0x140;
    static final int EPC = 0x141;
    static final int CAUSE = 0x142;
    static final int TVAL = 0x143;
    static final int IP = 0x144;
    static final int ATP = 0x180;
    static final int VSTATUS = 0x200;
    static final int VIE = 0x204;
    static final int VTVEC = 0x205;
    static final int VSCRATCH = 0x240;
    static final int VEPC = 0x241;
    static final int VCAUSE = 0x242;
    static final int VTVAL = 0x243;
    static final int VIP = 0x244;
    static final int VATP = 0x280;
    static final int HSTATUS = 0x600;
    static final int HEDELEG = 0x602;
    static final int HIDELEG = 0x603;
    static final int HIE = 0x604;
    static final int HTVAL = 0x643;
    static final int HIP = 0x644;
    static final int HVIP = 0x645;
    static final int HTINST = 0x64a;
    static final int HGATP = 0x680;
    static final int TIME = 0xc01;
    static final int TIME_UPPER = 0xc81;

    static final int[] S_NUMBERS = {STATUS, IE, TVEC, SCRATCH, EPC, CAUSE, TVAL, IP, ATP};
    static final int[] VS_NUMBERS = {VSTATUS, VIE, VTVEC, VSCRATCH, VEPC, VCAUSE, VTVAL, VIP, VATP};
    static final int[] H_NUMBERS = {HSTATUS, HEDELEG, HIDELEG, HIE, HTVAL, HIP, HVIP, HTINST, HGATP};

    // The bits of STATUS and HSTATUS.
    static final int IE_BIT = 1 << 1;
    static final int PIE = 1 << 5;
    static final int PP = 1 << 8;
    static final int SUM = 1 << 18;
    static final int MXR = 1 << 19;
    static final int GVA = 1 << 6;
    static final int SPV = 1 << 7;
    static final int SPVP = 1 << 8;
    static final int HU = 1 << 9;
    static final int VTVM = 1 << 20;
    static final int VTW = 1 << 21;
    static final int VTSR = 1 << 22;
    static final int INTERRUPT = 1 << 31;

    /** Where a rig's program stands, and where its traps lead. */
    static final int AT = 4096;
    static final int TVEC_AT = 512;
    static final int VTVEC_AT = 768;
    /** In CAUSE until there is a trap. */
    static final int NO_TRAP = -1;

    private final HyperHost host = new HyperHost();
    private int calls;

    /** A machine whose traps can be told. */
    static Rig in(int mode) {
        Rig rig = new Rig().control(TVEC, TVEC_AT).control(VTVEC, VTVEC_AT);
        return rig.control(CAUSE, NO_TRAP).control(VCAUSE, NO_TRAP).place(AT, mode);
    }

    static boolean isTime(int number) {
        return number == TIME || number == TIME_UPPER;
    }

    /** Whether there is a control register of that number. */
    static boolean isNumber(int number) {
        return isAmong(number, S_NUMBERS) || isAmong(number, VS_NUMBERS) || isAmong(number, H_NUMBERS)
            || isTime(number);
    }

    private static boolean isAmong(int number, int[] numbers) {
        for (int one : numbers) {
            if (one == number) {
                return true;
            }
        }
        return false;
    }

    static boolean isVirtual(int mode) {
        return mode >= VU;
    }

    HyperHost host() {
        calls++;
        if (calls > MOST_CALLS) {
            throw new IllegalStateException("a test makes more than 512 calls of one object");
        }
        return host;
    }

    private Rig must(boolean done) {
        if (!done) {
            throw new IllegalStateException("a test can't set its machine up");
        }
        return this;
    }

    /** Puts words to memory; poke takes five, so that others are put as they were. */
    Rig words(int address, int... words) {
        for (int i = 0; i < words.length; i += 5) {
            int at = address + 4 * i;
            int from = Math.min(at, MEMORY - 20);
            int[] five = new int[5];
            for (int j = 0; j < 5; j++) {
                int k = i + j - (at - from) / 4;
                five[j] = k >= i && k < words.length ? words[k] : host().word(from + 4 * j);
            }
            must(host().poke(from, five[0], five[1], five[2], five[3], five[4]) == 0);
        }
        return this;
    }

    Rig register(int n, int v) {
        host().setRegister(n, v);
        return this;
    }

    Rig control(int number, int v) {
        return must(host().setControl(number, v) == 0);
    }

    Rig place(int pc, int mode) {
        return must(host().place(pc, mode) >= 0);
    }

    Rig line(boolean on) {
        host().line(on);
        return this;
    }

    Rig run(int steps) {
        return must(host().run(steps) == steps);
    }

    /** One step with an instruction at the PC; without translation it stands where the PC says. */
    Rig step(int word) {
        return words(pc(), word).run(1);
    }

    /** In S, the FIRMWARE is called. */
    Rig call(int x17, int x10, int x11) {
        return register(17, x17).register(10, x10).register(11, x11).step(Asm.ECALL);
    }

    int x(int n) {
        return host().register(n);
    }

    int told(int number) {
        return host().control(number);
    }

    int hstatus() {
        return told(HSTATUS);
    }

    int word(int address) {
        return host().word(address);
    }

    int count(int what) {
        return host().count(what);
    }

    int mode() {
        return count(0);
    }

    int pc() {
        return count(1);
    }
}
