import java.util.Random;

/** Promises 1 to 15 together: machines full of chance, each run beside the model that says the document again. */
public final class AgainstModelTest {
    private static final int MACHINES = 6000;
    private static final int ROUNDS = 24;
    private static final int CODE_WORDS = 400;

    private static final int S_ROOT = 8;
    private static final int VS_ROOT = 12;
    private static final int H_ROOT = 16;

    private static final int[] NUMBERS = {
        Rig.STATUS, Rig.IE, Rig.TVEC, Rig.SCRATCH, Rig.EPC, Rig.CAUSE, Rig.TVAL, Rig.IP, Rig.ATP,
        Rig.VSTATUS, Rig.VIE, Rig.VTVEC, Rig.VSCRATCH, Rig.VEPC, Rig.VCAUSE, Rig.VTVAL, Rig.VIP, Rig.VATP,
        Rig.HSTATUS, Rig.HEDELEG, Rig.HIDELEG, Rig.HIE, Rig.HTVAL, Rig.HIP, Rig.HVIP, Rig.HTINST, Rig.HGATP,
        Rig.TIME, Rig.TIME_UPPER, 0x101, 0x145, 0x201, 0x601, 0x605, 0xc00, 0x300,
    };

    private final Checks checks;
    private final Random chance;
    private final String name;
    private final HyperHost host = new HyperHost();
    private final Model model = new Model();

    private AgainstModelTest(Checks checks, int seed) {
        this.checks = checks;
        this.chance = new Random(seed);
        this.name = "machine " + seed + ": ";
    }

    public static void main(String[] args) {
        Checks checks = new Checks();
        int[] causes = new int[24];
        int down = 0;
        int interrupts = 0;
        for (int seed = 1; seed <= MACHINES && !checks.hasWrong(); seed++) {
            AgainstModelTest test = new AgainstModelTest(checks, seed);
            test.play(causes);
            down += test.model.toVs;
            interrupts += test.model.interrupts;
        }
        // Chance that never comes to something would show nothing of it.
        for (int cause : new int[] {0, 1, 2, 3, 4, 5, 6, 7, 8, 10, 12, 13, 15, 20, 21, 22, 23}) {
            checks.due("some traps have cause " + cause, causes[cause] > 0 ? 1 : 0, 1);
        }
        checks.due("some traps go to VS", down > 0 ? 1 : 0, 1);
        checks.due("some interrupts are taken", interrupts > 0 ? 1 : 0, 1);
        checks.finish();
    }

    private void play(int[] causes) {
        fillTables();
        fillCode();
        for (int number : new int[] {Rig.TVEC, Rig.VTVEC, Rig.HEDELEG, Rig.HIDELEG, Rig.HSTATUS}) {
            setControl(number);
        }
        for (int n = 1; n < 32; n++) {
            setRegister(n);
        }
        for (int round = 0; round < ROUNDS; round++) {
            disturb();
            int steps = chance.nextInt(12);
            int done = 0;
            while (done < steps && !model.off) {
                int traps = model.toS;
                model.step();
                int cause = model.tell(Rig.CAUSE);
                if (model.toS != traps && cause >= 0) {
                    causes[cause]++;
                }
                done++;
            }
            due("run", host.run(steps), done);
            due("mode", host.count(0), model.mode);
            due("PC", host.count(1), model.pc);
        }
        compare();
    }

    private void disturb() {
        switch (chance.nextInt(4)) {
            case 0: setControl(NUMBERS[chance.nextInt(NUMBERS.length)]); break;
            case 1: setRegister(chance.nextInt(32)); break;
            case 2: setLine(); break;
            default: break;
        }
        if (chance.nextInt(3) == 0) {
            int[] often = {Rig.ATP, Rig.VATP, Rig.HGATP, Rig.STATUS, Rig.VSTATUS, Rig.HSTATUS};
            setControl(often[chance.nextInt(often.length)]);
        }
        if (chance.nextInt(2) == 0) {
            int pc = 4 * chance.nextInt(CODE_WORDS);
            int mode = chance.nextInt(4);
            due("place", host.place(pc, mode), model.mode);
            model.pc = pc;
            model.mode = mode;
        }
    }

    private void due(String what, long got, long want) {
        if (got != want) {
            checks.due(name + what, got, want);
        }
    }

    private void compare() {
        for (int n = 0; n < 32; n++) {
            due("register " + n, host.register(n), model.x[n]);
        }
        for (int number : NUMBERS) {
            due("control " + number, host.control(number), model.tell(number));
        }
        long[] counts = {
            model.mode, model.pc, (int) model.time, (int) (model.time >> 32), model.toS, model.toVs, model.interrupts,
            model.console.length(), model.off ? 1 : 0, (int) model.alarm, (int) (model.alarm >> 32),
        };
        for (int what = 0; what < counts.length; what++) {
            due("count " + what, host.count(what), counts[what]);
        }
        for (int i = 0; i < model.console.length() && i < 5; i++) {
            due("console " + i, host.console(i), model.console.charAt(i));
        }
        due("sum", host.sum(0, 64), model.sum());
        checks.due(name + "breaches", host.breaches(), 0);
    }

    // Setting both up alike

    private void poke(int address, int[] words, int from) {
        host.poke(address, words[from], words[from + 1], words[from + 2], words[from + 3], words[from + 4]);
        for (int i = 0; i < 5; i++) {
            model.putWord(address + 4 * i, words[from + i]);
        }
    }

    private void pokeAll(int address, int[] words) {
        for (int from = 0; from < words.length; from += 5) {
            poke(address + 4 * from, words, from);
        }
    }

    private void setRegister(int n) {
        int v = n == 17 ? someCall() : n == 11 ? chance.nextInt(3) - 1 : someNumber();
        host.setRegister(n, v);
        if (n != 0) {
            model.x[n] = v;
        }
    }

    private void setControl(int number) {
        int v = someControl(number);
        boolean real = number != Rig.TIME && number != Rig.TIME_UPPER && model.controls.containsKey(number);
        due("setControl " + number, host.setControl(number, v), real ? 0 : HyperHost.BAD);
        if (real) {
            model.write(number, v);
        }
    }

    private void setLine() {
        boolean on = chance.nextInt(4) == 0;
        due("line", host.line(on) ? 1 : 0, model.line ? 1 : 0);
        model.line = on;
    }

    // What chance makes

    private int someNumber() {
        switch (chance.nextInt(8)) {
            case 0: return chance.nextInt();
            case 1: return chance.nextInt(16) - 4;
            case 2: return Rig.MEMORY - 8 + chance.nextInt(16);
            case 3: return chance.nextInt(1 << 20) << 12;
            case 4: return 0x400000 * chance.nextInt(6) + 4 * chance.nextInt(1 << 14);
            default: return 4096 * chance.nextInt(70) + 4 * chance.nextInt(1024) + (chance.nextInt(6) == 0 ? 1 : 0);
        }
    }

    private int someCall() {
        return new int[] {0, 0, 1, 1, 1, 5, -1, chance.nextInt(9)}[chance.nextInt(8)];
    }

    private int someControl(int number) {
        switch (number) {
            case Rig.ATP: return someRoot(S_ROOT);
            case Rig.VATP: return someRoot(VS_ROOT);
            case Rig.HGATP: return someRoot(H_ROOT);
            case Rig.TVEC: case Rig.VTVEC: return 4 * chance.nextInt(CODE_WORDS) + chance.nextInt(4);
            default: return chance.nextInt(3) == 0 ? chance.nextInt(2) - 1 : chance.nextInt();
        }
    }

    private int someRoot(int frame) {
        switch (chance.nextInt(12)) {
            case 0: return chance.nextInt();
            case 1: return 1 << 31 | 64;
            case 2: case 3: case 4: return 0;
            default: return 1 << 31 | frame;
        }
    }

    private void fillTables() {
        fillTable(S_ROOT, S_ROOT + 1, false);
        fillTable(VS_ROOT, VS_ROOT + 1, false);
        fillTable(H_ROOT, H_ROOT + 4, true);
    }

    private void fillTable(int root, int table, boolean second) {
        int[] roots = new int[10];
        for (int i = 0; i < roots.length; i++) {
            int pointer = table << 10 | 1;
            switch (chance.nextInt(5)) {
                case 0: roots[i] = pointer | 1 << chance.nextInt(10); break;
                case 1: roots[i] = chance.nextInt(3) << 20 | 0xcf | chance.nextInt(256); break;
                case 2: roots[i] = i == 0 ? pointer : chance.nextInt(); break;
                default: roots[i] = pointer; break;
            }
        }
        pokeAll(root * 4096, roots);
        int[] leaves = new int[65];
        for (int i = 0; i < leaves.length; i++) {
            int frame = chance.nextInt(6) == 0 ? chance.nextInt(70) : i;
            int flags = 0xcf | (second || chance.nextInt(2) == 0 ? 0x10 : 0);
            if (chance.nextInt(4) == 0) {
                flags &= ~(1 << chance.nextInt(8));
            }
            leaves[i] = frame << 10 | flags;
        }
        pokeAll(table * 4096, leaves);
    }

    private void fillCode() {
        int[] code = new int[CODE_WORDS];
        for (int i = 0; i < code.length; i++) {
            code[i] = someInstruction();
        }
        pokeAll(0, code);
    }

    private int someInstruction() {
        int f = chance.nextInt(8);
        int d = chance.nextInt(32);
        int a = chance.nextInt(32);
        int b = chance.nextInt(32);
        switch (chance.nextInt(20)) {
            case 0: return chance.nextInt();
            case 1: case 2: return Asm.immediate(f, d, a, chance.nextInt(f == 1 || f == 5 ? 40 : 4096));
            case 3: case 4: return Asm.register(f, new int[] {0, 1, 1, 32}[chance.nextInt(4)], d, a, b);
            case 5: case 6: case 7: return Asm.load(chance.nextInt(6), d, a, chance.nextInt(32) - 8);
            case 8: case 9: return Asm.store(chance.nextInt(4), b, a, chance.nextInt(32) - 8);
            case 10: return Asm.upper(chance.nextBoolean() ? 55 : 23, d, chance.nextInt());
            case 11: return Asm.branch(f, a, b, 2 * (chance.nextInt(40) - 20));
            case 12: return chance.nextBoolean() ? Asm.jump(d, 2 * (chance.nextInt(80) - 40)) : Asm.jumpTo(d, a, 0);
            case 13: case 14: return Asm.control(f, d, NUMBERS[chance.nextInt(NUMBERS.length)], a);
            case 15: case 16: return someSystem(a, b);
            case 17: return chance.nextBoolean() ? Asm.load(2, d, a, 0) : 15 | f % 3 << 12;
            default: return someGuest(d, a, b);
        }
    }

    private int someSystem(int a, int b) {
        int[] g = {9, 17, 49};
        switch (chance.nextInt(7)) {
            case 0: return Asm.ECALL;
            case 1: return Asm.EBREAK;
            case 2: return Asm.SRET;
            case 3: return Asm.WFI;
            case 4: return Asm.ECALL | (chance.nextInt(8) == 0 ? 1 << 7 + chance.nextInt(20) : 0);
            default: return Asm.registerForm(115, 0, 0, a, b, g[chance.nextInt(3)]);
        }
    }

    private int someGuest(int d, int a, int b) {
        if (chance.nextBoolean()) {
            return Asm.guestLoad(48 + 2 * chance.nextInt(3), chance.nextInt(4), d, a);
        }
        return Asm.registerForm(115, 4, chance.nextInt(8) == 0 ? d : 0, a, b, 49 + 2 * chance.nextInt(3));
    }
}
