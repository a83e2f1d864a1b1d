/** A new machine with hands to set it up. */
final class Rig {
    static final int U = 0;
    static final int S = 1;
    static final int VU = 2;
    static final int VS = 3;

    static final int MEMORY = 262144;

    static final int STATUS = 0x100;
    static final int IE = 0x104;
    static final int TVEC = 0x105;
    static final int SCRATCH = 0x140;
    static final int EPC = 0x141;
    static final int CAUSE = 0x142;
    static final int TVAL = 0x143;
    static final int IP = 0x144;
    static final int ATP = 0x180;
    static final int VSTATUS = 0x200;
    static final int VIE = 0x204;
    static final int VTVEC = 0x205;
    static final int VSCRATCH = 0x240;
    static final int VEPC = 0x241;
    static final int VCAUSE = 0x242;
    static final int VTVAL = 0x243;
    static final int VIP = 0x244;
    static final int VATP = 0x280;
    static final int HSTATUS = 0x600;
    static final int HEDELEG = 0x602;
    static final int HIDELEG = 0x603;
    static final int HIE = 0x604;
    static final int HTVAL = 0x643;
    static final int HIP = 0x644;
    static final int HVIP = 0x645;
    static final int HTINST = 0x64a;
    static final int HGATP = 0x680;
    static final int TIME = 0xc01;
    static final int TIME_UPPER = 0xc81;

    static final int[] S_NUMBERS = {STATUS, IE, TVEC, SCRATCH, EPC, CAUSE, TVAL, IP, ATP};
    static final int[] VS_NUMBERS = {VSTATUS, VIE, VTVEC, VSCRATCH, VEPC, VCAUSE, VTVAL, VIP, VATP};
    static final int[] H_NUMBERS = {HSTATUS, HEDELEG, HIDELEG, HIE, HTVAL, HIP, HVIP, HTINST, HGATP};

    final HyperHost host = new HyperHost();

    /** Puts words to memory; poke takes five at a time, so that the others are put as they were. */
    Rig words(int address, int... words) {
        for (int i = 0; i < words.length; i++) {
            int at = address + 4 * i;
            int from = Math.min(at, MEMORY - 20);
            int[] five = new int[5];
            for (int j = 0; j < 5; j++) {
                five[j] = host.word(from + 4 * j);
            }
            five[(at - from) / 4] = words[i];
            host.poke(from, five[0], five[1], five[2], five[3], five[4]);
        }
        return this;
    }

    Rig register(int n, int v) {
        host.setRegister(n, v);
        return this;
    }

    Rig control(int number, int v) {
        host.setControl(number, v);
        return this;
    }

    Rig place(int pc, int mode) {
        host.place(pc, mode);
        return this;
    }

    /** One step with an instruction at the PC; without translation it stands where the PC says. */
    Rig step(int word) {
        words(host.count(1), word);
        host.run(1);
        return this;
    }

    /** A program at a place, done for as many steps as it has words. */
    Rig program(int pc, int mode, int... words) {
        words(pc, words);
        place(pc, mode);
        host.run(words.length);
        return this;
    }

    int get(int n) {
        return host.register(n);
    }

    int told(int number) {
        return host.control(number);
    }

    int mode() {
        return host.count(0);
    }

    int pc() {
        return host.count(1);
    }
}
