/** Promise 12, run: what instructions do, and which are illegal. */
public final class InstructionTest {
    private static final Checks CHECKS = new Checks();
    private static final int LEAST = Integer.MIN_VALUE;
    private static final int AT = 4096;
    private static final int TVEC = 512;

    public static void main(String[] args) {
        immediates();
        registers();
        products();
        uppersAndX0();
        jumps();
        branches();
        loads();
        stores();
        misaligned();
        outside();
        illegal();
        steps();
        CHECKS.finish();
    }

    private static void due(String what, long got, long want) {
        CHECKS.due(what, got, want);
    }

    private static Rig rig() {
        return new Rig().control(Rig.TVEC, TVEC).place(AT, Rig.S);
    }

    private static void immediate(int f, int p, int immediate, int want) {
        Rig rig = rig().register(6, p).step(Asm.immediate(f, 5, 6, immediate));
        due("op 19, f " + f + " of " + p + ", " + immediate, rig.get(5), want);
        due("its PC", rig.pc(), AT + 4);
        due("x[a]", rig.get(6), p);
    }

    private static void immediates() {
        immediate(0, 5, -7, -2);
        immediate(0, Integer.MAX_VALUE, 1, LEAST);
        immediate(0, 0, 2047, 2047);
        immediate(0, 0, -2048, -2048);
        immediate(2, -1, 0, 1);
        immediate(2, 0, 0, 0);
        immediate(2, 0, -1, 0);
        immediate(3, -1, 0, 0);
        immediate(3, 5, -1, 1);
        immediate(3, 0, 1, 1);
        immediate(4, 0xf0f0, -1, ~0xf0f0);
        immediate(6, 0xf0f0, 0x0f, 0xf0ff);
        immediate(7, -1, -16, -16);
        immediate(1, 3, 31, LEAST);
        immediate(1, 3, 0, 3);
        immediate(5, LEAST, 31, 1);
        immediate(5, -1, 4, 0x0fffffff);
        immediate(5, LEAST, 32 << 5 | 31, -1);
        immediate(5, -16, 32 << 5 | 2, -4);
    }

    private static void register(int g, int f, int p, int q, int want) {
        Rig rig = rig().register(6, p).register(7, q).step(Asm.register(f, g, 5, 6, 7));
        due("op 51, g " + g + ", f " + f + " of " + p + ", " + q, rig.get(5), want);
        due("its PC", rig.pc(), AT + 4);
    }

    private static void registers() {
        register(0, 0, Integer.MAX_VALUE, 1, LEAST);
        register(32, 0, 3, 5, -2);
        register(0, 1, 1, 33, 2);
        register(0, 1, 1, 31, LEAST);
        register(0, 2, -1, 1, 1);
        register(0, 2, 1, -1, 0);
        register(0, 3, -1, 1, 0);
        register(0, 3, 1, -1, 1);
        register(0, 4, 0xff, 0x0f, 0xf0);
        register(0, 5, LEAST, 63, 1);
        register(32, 5, LEAST, 63, -1);
        register(32, 5, LEAST, 32, LEAST);
        register(0, 6, 0xf0, 0x0f, 0xff);
        register(0, 7, 0xff, 0x3c, 0x3c);
    }

    private static void products() {
        register(1, 0, 65537, 65537, 131073);
        register(1, 1, LEAST, LEAST, 1 << 30);
        register(1, 1, -1, 1, -1);
        register(1, 2, -1, -1, -1);
        register(1, 2, LEAST, -1, LEAST);
        register(1, 2, 1, -1, 0);
        register(1, 3, -1, -1, -2);
        register(1, 3, LEAST, 2, 1);
        register(1, 4, -7, 2, -3);
        register(1, 4, 7, 0, -1);
        register(1, 4, LEAST, -1, LEAST);
        register(1, 5, -1, 2, Integer.MAX_VALUE);
        register(1, 5, 7, 0, -1);
        register(1, 5, LEAST, -1, 0);
        register(1, 6, -7, 2, -1);
        register(1, 6, 7, -2, 1);
        register(1, 6, -7, 0, -7);
        register(1, 6, LEAST, -1, 0);
        register(1, 7, -1, 10, 5);
        register(1, 7, -7, 0, -7);
        register(1, 7, LEAST, -1, LEAST);
    }

    private static void uppersAndX0() {
        due("op 55", rig().step(Asm.upper(55, 5, 0x80001fff)).get(5), 0x80001000);
        due("op 23", rig().step(Asm.upper(23, 5, 0xfffff000)).get(5), 0);
        due("op 23 goes round", rig().step(Asm.upper(23, 5, 0x7ffff000)).get(5), LEAST);
        Rig rig = rig().step(Asm.upper(55, 0, -1)).step(Asm.add(5, 0, 1)).step(Asm.add(0, 0, 9)).step(Asm.add(6, 0, 2));
        due("x0", rig.get(0), 0);
        due("of x0", rig.get(5) * 10 + rig.get(6), 12);
        rig = rig().step(Asm.jumpTo(0, 0, 64)).step(Asm.load(2, 0, 0, 64));
        due("x0 behind a jump and a load", rig.get(0), 0);
    }

    private static void jumps() {
        Rig rig = rig().step(Asm.jump(5, -2048));
        due("jump back", rig.pc(), AT - 2048);
        due("its way back", rig.get(5), AT + 4);
        due("jump far", rig().step(Asm.jump(0, 0x57ab4)).pc(), AT + 0x57ab4);
        due("jump farthest back", rig().step(Asm.jump(0, -(1 << 20))).pc(), AT - (1 << 20));
        rig = rig().register(5, 1027).step(Asm.jumpTo(5, 5, -2));
        due("to a register, bit 0 cleared", rig.pc(), 1024);
        due("by the old one", rig.get(5), AT + 4);
        due("round", rig().register(5, -4).step(Asm.jumpTo(0, 5, 12)).pc(), 8);
        noPlace(rig().register(5, 77), Asm.jump(5, 1022), AT + 1022);
        noPlace(rig().register(5, 77), Asm.jumpTo(5, 5, 2001), 2078);
        noPlace(rig().register(5, 77), Asm.branch(0, 0, 0, 6), AT + 6);
        due("a branch that is not taken has no place", rig().step(Asm.branch(1, 0, 0, 6)).pc(), AT + 4);
        due("jump to outside is no exception of the jump", rig().step(Asm.jump(0, 1 << 19)).told(Rig.CAUSE), 0);
    }

    private static void noPlace(Rig rig, int word, int place) {
        rig.control(Rig.CAUSE, 99).step(word);
        due("CAUSE of no place", rig.told(Rig.CAUSE), 0);
        due("TVAL of no place", rig.told(Rig.TVAL), place);
        due("EPC of no place", rig.told(Rig.EPC), AT);
        due("PC of no place", rig.pc(), TVEC);
        due("x[d] stays", rig.get(5), 77);
    }

    private static void branches() {
        int[][] taken = {
            {0, 5, 5}, {1, 5, 6}, {4, -1, 0}, {5, 0, -1}, {5, 3, 3}, {6, 0, -1}, {7, -1, 0}, {7, 3, 3}, {4, LEAST, 0},
        };
        int[][] not = {{0, 5, 6}, {1, 5, 5}, {4, 0, -1}, {4, 3, 3}, {5, -1, 0}, {6, -1, 0}, {6, 3, 3}, {7, 0, -1}};
        for (int[] one : taken) {
            due("taken, f " + one[0], branch(one, -1000), AT - 1000);
            due("taken on, f " + one[0], branch(one, 0xffc), AT + 0xffc);
        }
        for (int[] one : not) {
            due("not taken, f " + one[0], branch(one, -1000), AT + 4);
        }
        due("farthest back", branch(new int[] {0, 1, 1}, -4096), 0);
    }

    private static int branch(int[] row, int offset) {
        return rig().register(6, row[1]).register(7, row[2]).step(Asm.branch(row[0], 6, 7, offset)).pc();
    }

    private static void loads() {
        int[][] rows = {
            {0, 0, 0xffffff80}, {0, 3, 0x7f}, {4, 0, 0x80}, {4, 1, 0xff}, {1, 0, 0xffffff80}, {1, 2, 0x7f01},
            {5, 0, 0xff80}, {2, 0, 0x7f01ff80}, {0, -1, 0x55}, {0, 4, 0x66},
        };
        for (int[] row : rows) {
            Rig rig = rig().words(8188, 0x55000000, 0x7f01ff80, 0x66).register(6, 8192 + 20);
            rig.step(Asm.load(row[0], 5, 6, row[1] - 20));
            due("load f " + row[0] + " at " + row[1], rig.get(5), row[2]);
        }
        Rig rig = rig().words(8192, 8200, 0, 33).register(6, 8192).step(Asm.load(2, 6, 6, 0)).step(Asm.load(2, 6, 6, 0));
        due("loads into their own base", rig.get(6), 33);
        due("the last byte", rig().words(Rig.MEMORY - 4, 0x12000000).register(6, Rig.MEMORY).step(Asm.load(4, 5, 6, -1)).get(5), 0x12);
    }

    private static void stores() {
        int[][] rows = {
            {0, 0, 0x111111aa}, {0, 1, 0x1111aa11}, {0, 3, 0xaa111111}, {1, 0, 0x111199aa}, {1, 2, 0x99aa1111},
            {2, 0, 0x778899aa},
        };
        for (int[] row : rows) {
            Rig rig = rig().words(8188, 0x11111111, 0x11111111, 0x11111111).register(6, 8192 + 1000).register(7, 0x778899aa);
            rig.step(Asm.store(row[0], 7, 6, row[1] - 1000));
            due("store f " + row[0] + " at " + row[1], rig.host.word(8192), row[2]);
            due("before it", rig.host.word(8188), 0x11111111);
            due("behind it", rig.host.word(8196), 0x11111111);
        }
        Rig rig = rig().register(6, Rig.MEMORY - 2047).register(7, 0x1ff).step(Asm.store(0, 7, 6, 2046));
        due("the last byte", rig.host.word(Rig.MEMORY - 4), 0xff000000);
        rig = rig().register(6, AT + 4).register(7, Asm.add(9, 0, 3)).step(Asm.store(2, 7, 6, 0));
        rig.host.run(1);
        due("what was stored is done", rig.get(9), 3);
    }

    private static void trapped(String what, Rig rig, int cause, int tval) {
        due("CAUSE of " + what, rig.told(Rig.CAUSE), cause);
        due("TVAL of " + what, rig.told(Rig.TVAL), tval);
        due("EPC of " + what, rig.told(Rig.EPC), AT);
        due("PC of " + what, rig.pc(), TVEC);
        due("x5 of " + what, rig.get(5), 77);
        due("traps of " + what, rig.host.count(4), 1);
    }

    private static void misaligned() {
        for (int f : new int[] {1, 2, 5}) {
            Rig rig = rig().register(5, 77).register(6, 8193).step(Asm.load(f, 5, 6, 0));
            trapped("a load at an odd address, f " + f, rig, 4, 8193);
        }
        trapped("a word at 2", rig().register(5, 77).register(6, 8194).step(Asm.load(2, 5, 6, 0)), 4, 8194);
        trapped("two bytes stored at 3", rig().register(5, 77).step(Asm.store(1, 5, 0, 3)), 6, 3);
        Rig rig = rig().register(5, 77).step(Asm.store(2, 5, 0, 2));
        trapped("a word stored at 2", rig, 6, 2);
        due("nothing is stored", rig.host.word(0), 0);
        trapped("misaligned before outside", rig().register(5, 77).step(Asm.store(2, 5, 0, -1)), 6, -1);
        due("bytes may stand anywhere", rig().words(0, 0x01020304).step(Asm.load(0, 5, 0, 3)).get(5), 1);
    }

    private static void outside() {
        for (int address : new int[] {Rig.MEMORY, LEAST, -4, Integer.MAX_VALUE - 3}) {
            trapped("a load outside", rig().register(5, 77).register(6, address).step(Asm.load(2, 5, 6, 0)), 5, address);
            trapped("a store outside", rig().register(5, 77).register(6, address).step(Asm.store(0, 5, 6, 0)), 7, address);
            Rig rig = rig().place(address, Rig.S);
            rig.host.run(1);
            due("CAUSE of a fetch outside", rig.told(Rig.CAUSE), 1);
            due("TVAL of a fetch outside", rig.told(Rig.TVAL), address);
            due("EPC of a fetch outside", rig.told(Rig.EPC), address);
            due("breaches", rig.host.breaches(), 0);
        }
    }

    private static void illegal() {
        int[] words = {
            0, -1, Asm.load(3, 5, 0, 0), Asm.load(6, 5, 0, 0), Asm.load(7, 5, 0, 0), Asm.store(3, 5, 0, 0),
            Asm.store(4, 5, 0, 0), Asm.branch(2, 0, 0, 8), Asm.branch(3, 0, 0, 8), Asm.immediateForm(103, 1, 5, 0, 0),
            Asm.immediateForm(15, 2, 5, 0, 0), Asm.immediateForm(15, 7, 0, 0, 0), Asm.immediate(1, 5, 0, 32),
            Asm.immediate(1, 5, 0, 32 << 5), Asm.immediate(5, 5, 0, 1 << 5), Asm.immediate(5, 5, 0, 33 << 5),
            Asm.register(1, 32, 5, 0, 0), Asm.register(7, 32, 5, 0, 0), Asm.register(0, 2, 5, 0, 0),
            Asm.register(0, 33, 5, 0, 0), Asm.register(5, 64, 5, 0, 0), Asm.NOP & ~1, Asm.NOP & ~2, 7, 27, 47, 59, 127,
            Asm.upper(54, 5, 0), 119,
        };
        for (int word : words) {
            trapped("illegal " + Integer.toHexString(word), rig().register(5, 77).step(word), 2, word);
        }
        due("op 15, f 0", rig().step(Asm.immediateForm(15, 0, 5, 3, -1)).pc(), AT + 4);
        Rig rig = rig().register(5, 77).step(Asm.immediateForm(15, 1, 5, 3, -1));
        due("op 15, f 1", rig.pc(), AT + 4);
        due("op 15 puts nothing", rig.get(5), 77);
    }

    private static void steps() {
        Rig rig = rig();
        for (int steps : new int[] {-1, 2001, LEAST, Integer.MAX_VALUE}) {
            due("run(" + steps + ")", rig.host.run(steps), -1);
        }
        due("TIME behind bad ones", rig.host.count(2), 0);
        due("run(0)", rig.host.run(0), 0);
        rig.words(AT, Asm.add(5, 5, 1), Asm.jump(0, -4));
        due("run(2000)", rig.host.run(2000), 2000);
        due("what 2000 steps did", rig.get(5), 1000);
        due("TIME", rig.host.count(2), 2000);
        rig.words(AT + 4, Asm.control(2, 6, Rig.TIME, 0), Asm.control(2, 7, Rig.TIME_UPPER, 0)).host.run(3);
        due("TIME within a step", rig.get(6), 2001);
        due("its upper bits", rig.get(7), 0);
        due("TIME told", rig.told(Rig.TIME), 2003);
        rig = rig().register(17, 8).register(10, 5).words(AT, Asm.NOP, Asm.ECALL, Asm.add(5, 0, 1));
        due("run until it is off", rig.host.run(10), 2);
        due("x10", rig.get(10), 0);
        due("the PC", rig.pc(), AT + 8);
        due("TIME", rig.host.count(2), 2);
        due("run when it is off", rig.host.run(10), 0);
        due("run(0) when it is off", rig.host.run(0), 0);
        due("bad when it is off", rig.host.run(2001), -1);
        due("not done", rig.get(5), 0);
        due("all else can be done", rig.host.place(0, Rig.U), Rig.S);
        due("all else can be done", rig.host.setRegister(5, 3) + rig.get(5), 3);
        due("all else can be done", rig.host.poke(0, 1, 2, 3, 4, 5), 0);
        due("off still", rig.host.run(1), 0);
    }
}
