/** Promises 11, 12 and 13: traps to S and to VS, what they leave, and which interrupt is due when. */
public final class TrapTest {
    private static final Checks CHECKS = new Checks();
    private static final int AT = 4096;
    private static final int TVEC = 512;
    private static final int VTVEC = 1024;
    private static final int INTERRUPT = 1 << 31;
    private static final int IE_BIT = 2;
    private static final int PIE_BIT = 32;
    private static final int PP_BIT = 256;

    public static void main(String[] args) {
        toS();
        toVs();
        delegation();
        tvals();
        vectors();
        whenForS();
        whenForVs();
        order();
        passedInterrupts();
        alarmsAndLines();
        chain();
        CHECKS.finish();
    }

    private static void due(String what, long got, long want) {
        CHECKS.due(what, got, want);
    }

    private static Rig rig(int mode) {
        return new Rig().control(Rig.TVEC, TVEC).control(Rig.VTVEC, VTVEC).place(AT, mode);
    }

    private static void toS() {
        for (int mode = 0; mode < 4; mode++) {
            for (int ie = 0; ie < 2; ie++) {
                String what = "to S from " + mode + ", IE " + ie + ": ";
                Rig rig = rig(mode).control(Rig.STATUS, 0xc0000 | (ie == 1 ? IE_BIT : PIE_BIT));
                rig.control(Rig.HTVAL, 9).control(Rig.HTINST, 9).control(Rig.HSTATUS, 0x7003c0 & ~(1 << 8));
                rig.control(Rig.VSTATUS, IE_BIT).control(Rig.VCAUSE, 99).step(0);
                due(what + "EPC", rig.told(Rig.EPC), AT);
                due(what + "CAUSE", rig.told(Rig.CAUSE), 2);
                int pp = mode == Rig.S || mode == Rig.VS ? PP_BIT : 0;
                due(what + "STATUS", rig.told(Rig.STATUS), 0xc0000 | (ie == 1 ? PIE_BIT : 0) | pp);
                int hstatus = 0x700200 | (mode >= Rig.VU ? 1 << 7 : 0) | (mode == Rig.VS ? 1 << 8 : 0);
                due(what + "HSTATUS", rig.told(Rig.HSTATUS), hstatus);
                due(what + "HTVAL", rig.told(Rig.HTVAL), 0);
                due(what + "HTINST", rig.told(Rig.HTINST), 0);
                due(what + "mode", rig.mode(), Rig.S);
                due(what + "PC", rig.pc(), TVEC);
                due(what + "VS CAUSE", rig.told(Rig.VCAUSE), 99);
                due(what + "VS STATUS", rig.told(Rig.VSTATUS), IE_BIT);
                due(what + "traps", rig.host.count(4) * 100 + rig.host.count(5) * 10 + rig.host.count(6), 100);
                due(what + "TIME", rig.host.count(2), 1);
            }
        }
        Rig rig = rig(Rig.U).control(Rig.HSTATUS, 1 << 8).step(0);
        due("SPVP stays for U", rig.told(Rig.HSTATUS), 1 << 8);
        rig = rig(Rig.VU).control(Rig.HSTATUS, 1 << 8).step(0);
        due("SPVP 0 for VU", rig.told(Rig.HSTATUS), 1 << 7);
    }

    private static void toVs() {
        for (int mode : new int[] {Rig.VU, Rig.VS}) {
            for (int ie = 0; ie < 2; ie++) {
                String what = "to VS from " + mode + ", IE " + ie + ": ";
                Rig rig = rig(mode).control(Rig.VSTATUS, 0xc0000 | (ie == 1 ? IE_BIT : PIE_BIT));
                rig.control(Rig.HTVAL, 9).control(Rig.HTINST, 8).control(Rig.HSTATUS, 0x3c0).control(Rig.HEDELEG, 4);
                rig.control(Rig.STATUS, IE_BIT).control(Rig.CAUSE, 99).control(Rig.EPC, 40).control(Rig.TVAL, 41).step(127);
                due(what + "VS EPC", rig.told(Rig.VEPC), AT);
                due(what + "VS CAUSE", rig.told(Rig.VCAUSE), 2);
                due(what + "VS TVAL", rig.told(Rig.VTVAL), 127);
                int pp = mode == Rig.VS ? PP_BIT : 0;
                due(what + "VS STATUS", rig.told(Rig.VSTATUS), 0xc0000 | (ie == 1 ? PIE_BIT : 0) | pp);
                due(what + "HSTATUS", rig.told(Rig.HSTATUS), 0x3c0);
                due(what + "HTVAL", rig.told(Rig.HTVAL), 9);
                due(what + "HTINST", rig.told(Rig.HTINST), 8);
                due(what + "mode", rig.mode(), Rig.VS);
                due(what + "PC", rig.pc(), VTVEC);
                due(what + "STATUS", rig.told(Rig.STATUS), IE_BIT);
                due(what + "CAUSE", rig.told(Rig.CAUSE), 99);
                due(what + "EPC", rig.told(Rig.EPC), 40);
                due(what + "TVAL", rig.told(Rig.TVAL), 41);
                due(what + "traps", rig.host.count(4) * 100 + rig.host.count(5) * 10 + rig.host.count(6), 10);
            }
        }
    }

    /** A run to an exception of a number, where one step can come to it without tables. */
    private static Rig exception(int mode, int number, int hedeleg) {
        Rig rig = rig(mode).control(Rig.HEDELEG, hedeleg).register(6, 2).register(7, -4);
        switch (number) {
            case 0: return rig.step(Asm.jumpTo(5, 6, 0));
            case 1: rig.place(-4, mode).host.run(1); return rig;
            case 2: return rig.step(0);
            case 3: return rig.step(Asm.EBREAK);
            case 4: return rig.step(Asm.load(2, 5, 6, 0));
            case 5: return rig.step(Asm.load(2, 5, 7, 0));
            case 6: return rig.step(Asm.store(2, 5, 6, 0));
            case 7: return rig.step(Asm.store(2, 5, 7, 0));
            case 8: case 10: return rig.step(Asm.ECALL);
            default: return rig.step(Asm.control(2, 5, Rig.HGATP, 0));
        }
    }

    private static void delegation() {
        for (int number : new int[] {0, 1, 2, 3, 4, 5, 6, 7, 8}) {
            for (int mode = 0; mode < 4; mode++) {
                if (number != 8 || mode == Rig.U || mode == Rig.VU) {
                    boolean down = mode >= Rig.VU;
                    due(number + " from " + mode + " is passed", exception(mode, number, 1 << number).host.count(5), down ? 1 : 0);
                    due(number + " from " + mode + " is not", exception(mode, number, ~(1 << number)).host.count(5), 0);
                    int told = exception(mode, number, 1 << number).told(down ? Rig.VCAUSE : Rig.CAUSE);
                    due(number + " from " + mode + ": CAUSE", told, number);
                }
            }
        }
        due("the call of VS is never passed", exception(Rig.VS, 10, -1).told(Rig.CAUSE), 10);
        due("a virtual one is never passed", exception(Rig.VS, 22, -1).told(Rig.CAUSE), 22);
        due("a virtual one of VU is never passed", exception(Rig.VU, 22, -1).told(Rig.CAUSE), 22);
    }

    private static void tvals() {
        int[][] rows = {{0, 2, 1}, {1, -4, 1}, {2, 0, 0}, {3, AT, 1}, {4, 2, 1}, {5, -4, 1}, {6, 2, 1}, {7, -4, 1}, {8, 0, 0},
            {22, Asm.control(2, 5, Rig.HGATP, 0), 0}};
        for (int[] row : rows) {
            Rig rig = exception(Rig.VU, row[0], 0);
            due("TVAL of " + row[0], rig.told(Rig.TVAL), row[1]);
            due("GVA of " + row[0], rig.told(Rig.HSTATUS) >> 6 & 1, row[2]);
            due("EPC of " + row[0], rig.told(Rig.EPC), row[0] == 1 ? -4 : AT);
            if (row[0] < 22) {
                due("GVA of " + row[0] + " in U", exception(Rig.U, row[0], 0).told(Rig.HSTATUS), 0);
            }
        }
    }

    private static void vectors() {
        Rig rig = rig(Rig.U).control(Rig.TVEC, TVEC + 3).step(0);
        due("an exception has no place of its own", rig.pc(), TVEC);
        rig = rig(Rig.U).control(Rig.TVEC, TVEC + 1).control(Rig.IE, 2).control(Rig.IP, 2);
        rig.host.run(1);
        due("interrupt 1 by its number", rig.pc(), TVEC + 4);
        rig = rig(Rig.U).control(Rig.TVEC, TVEC + 1).control(Rig.HIE, 0x400).control(Rig.HVIP, 0x400);
        rig.host.run(1);
        due("interrupt 10 by its number", rig.pc(), TVEC + 40);
        rig = rig(Rig.VU).control(Rig.VTVEC, VTVEC + 1).control(Rig.HIE, 0x400).control(Rig.HVIP, 0x400);
        rig.control(Rig.HIDELEG, 0x400).host.run(1);
        due("interrupt 9 of VS by its number", rig.pc(), VTVEC + 36);
        rig = rig(Rig.U).control(Rig.IE, 0x200);
        rig.host.line(true);
        rig.host.run(1);
        due("interrupt 9 without that", rig.pc(), TVEC);
    }

    private static Rig pending(int mode, int status, int vsStatus) {
        Rig rig = rig(mode).control(Rig.STATUS, status).control(Rig.VSTATUS, vsStatus).words(AT, Asm.add(5, 0, 1));
        return rig.control(Rig.TVAL, 9).control(Rig.HTVAL, 9).control(Rig.HTINST, 9).control(Rig.HSTATUS, 1 << 6);
    }

    private static void taken(String what, Rig rig, int cause) {
        rig.host.run(1);
        due(what + ": CAUSE", rig.told(Rig.CAUSE), cause);
        due(what + ": interrupts", rig.host.count(6), cause == 0 ? 0 : 1);
        due(what + ": the instruction is done", rig.get(5), cause == 0 ? 1 : 0);
        if (cause != 0) {
            due(what + ": EPC", rig.told(Rig.EPC), AT);
            due(what + ": TVAL", rig.told(Rig.TVAL), 0);
            due(what + ": HTVAL", rig.told(Rig.HTVAL) + rig.told(Rig.HTINST), 0);
            due(what + ": GVA", rig.told(Rig.HSTATUS) >> 6 & 1, 0);
            due(what + ": mode", rig.mode(), Rig.S);
            due(what + ": traps to S", rig.host.count(4), 1);
        }
    }

    private static void whenForS() {
        for (int mode = 0; mode < 4; mode++) {
            for (int ie = 0; ie < 2; ie++) {
                int due = mode == Rig.S && ie == 0 ? 0 : INTERRUPT;
                int status = ie == 1 ? IE_BIT : 0;
                // The other one's IE must not matter.
                Rig rig = pending(mode, status, IE_BIT - status).control(Rig.IE, 2).control(Rig.IP, 2);
                taken("soft in " + mode + ", IE " + ie, rig, due == 0 ? 0 : due | 1);
                rig = pending(mode, status, IE_BIT - status).control(Rig.HIE, 4).control(Rig.HVIP, 4);
                taken("virtual in " + mode + ", IE " + ie, rig, due == 0 ? 0 : due | 2);
            }
            taken("not enabled", pending(mode, IE_BIT, 0).control(Rig.IE, ~2).control(Rig.IP, 2), 0);
            taken("virtual, not enabled", pending(mode, IE_BIT, 0).control(Rig.IE, -1).control(Rig.HVIP, 4), 0);
            taken("virtual, not there", pending(mode, IE_BIT, 0).control(Rig.HIE, 0x440).control(Rig.HVIP, 4), 0);
        }
        Rig rig = pending(Rig.VS, 0, 0).control(Rig.IE, 2).control(Rig.IP, 2);
        taken("from VS", rig, INTERRUPT | 1);
        due("SPV and SPVP", rig.told(Rig.HSTATUS), 0x180);
        due("PP", rig.told(Rig.STATUS), PP_BIT);
    }

    private static void down(String what, Rig rig, int cause) {
        rig.control(Rig.HSTATUS, 0x3c0).host.run(1);
        due(what + ": VS CAUSE", rig.told(Rig.VCAUSE), cause);
        due(what + ": CAUSE", rig.told(Rig.CAUSE), 0);
        due(what + ": traps to VS", rig.host.count(5), cause == 0 ? 0 : 1);
        due(what + ": interrupts", rig.host.count(6), cause == 0 ? 0 : 1);
        due(what + ": the instruction is done", rig.get(5), cause == 0 ? 1 : 0);
        due(what + ": HSTATUS", rig.told(Rig.HSTATUS), 0x3c0);
        if (cause != 0) {
            due(what + ": mode", rig.mode(), Rig.VS);
            due(what + ": VS EPC", rig.told(Rig.VEPC), AT);
            due(what + ": PC", rig.pc(), VTVEC);
        }
    }

    private static Rig passed(int mode, int status, int vsStatus, int bit) {
        Rig rig = pending(mode, status, vsStatus).control(Rig.HIDELEG, 0x444);
        return rig.control(Rig.HIE, 1 << bit).control(Rig.HVIP, 1 << bit);
    }

    private static void whenForVs() {
        for (int bit : new int[] {2, 6, 10}) {
            int cause = INTERRUPT | bit - 1;
            down("in U", passed(Rig.U, IE_BIT, IE_BIT, bit), 0);
            down("in S", passed(Rig.S, IE_BIT, IE_BIT, bit), 0);
            down("in VU", passed(Rig.VU, 0, 0, bit), cause);
            down("in VU, IE", passed(Rig.VU, IE_BIT, IE_BIT, bit), cause);
            down("in VS", passed(Rig.VS, IE_BIT, 0, bit), 0);
            down("in VS, IE", passed(Rig.VS, 0, IE_BIT, bit), cause);
            down("not enabled", passed(Rig.VS, 0, IE_BIT, bit).control(Rig.HIE, 0x444 & ~(1 << bit)), 0);
            down("not there", passed(Rig.VS, 0, IE_BIT, bit).control(Rig.HVIP, 0), 0);
        }
        Rig rig = passed(Rig.VU, 0, IE_BIT, 6);
        rig.host.run(1);
        due("VS STATUS", rig.told(Rig.VSTATUS), PIE_BIT);
        due("VS TVAL", rig.told(Rig.VTVAL), 0);
    }

    private static void order() {
        int[] order = {9, 1, 5, 10, 2, 6};
        for (int from = 0; from < order.length; from++) {
            int enabled = 0;
            for (int i = from; i < order.length; i++) {
                enabled |= 1 << order[i];
            }
            Rig rig = rig(Rig.S).register(17, 0).words(AT, Asm.ECALL);
            rig.host.run(1);
            rig.host.line(true);
            rig.control(Rig.IP, 2).control(Rig.HVIP, -1).control(Rig.IE, enabled).control(Rig.HIE, enabled);
            rig.place(AT, Rig.U).host.run(1);
            due("first for S of " + enabled, rig.told(Rig.CAUSE), INTERRUPT | order[from]);
        }
        int[] virtual = {10, 2, 6};
        for (int from = 0; from < virtual.length; from++) {
            int enabled = 0;
            for (int i = from; i < virtual.length; i++) {
                enabled |= 1 << virtual[i];
            }
            Rig rig = rig(Rig.VU).control(Rig.HIDELEG, -1).control(Rig.HVIP, -1).control(Rig.HIE, enabled);
            rig.host.run(1);
            due("first for VS of " + enabled, rig.told(Rig.VCAUSE), INTERRUPT | virtual[from] - 1);
        }
        Rig rig = passed(Rig.VU, 0, 0, 10).control(Rig.IE, 2).control(Rig.IP, 2);
        rig.host.run(1);
        due("S is before VS", rig.told(Rig.CAUSE), INTERRUPT | 1);
        due("VS is not asked", rig.told(Rig.VCAUSE), 0);
        rig = rig(Rig.VU).control(Rig.HIDELEG, 0x400).control(Rig.HVIP, -1).control(Rig.HIE, -1);
        rig.host.run(1);
        due("what is not passed is before what is", rig.told(Rig.CAUSE), INTERRUPT | 2);
        rig = rig(Rig.U).control(Rig.IE, 2).control(Rig.IP, 2).place(-4, Rig.U);
        rig.host.run(1);
        due("an interrupt is before the fetch", rig.told(Rig.CAUSE), INTERRUPT | 1);
        due("its EPC", rig.told(Rig.EPC), -4);
    }

    private static void passedInterrupts() {
        Rig rig = rig(Rig.VS).control(Rig.HIDELEG, 0x444).register(5, 2).control(Rig.VSTATUS, IE_BIT);
        rig.words(AT, Asm.control(1, 0, Rig.IE, 5), Asm.control(1, 0, Rig.IP, 5), Asm.NOP);
        rig.words(VTVEC, Asm.control(2, 6, Rig.CAUSE, 0), Asm.control(3, 0, Rig.IP, 5), Asm.SRET);
        rig.host.run(3);
        due("VS raises its own", rig.told(Rig.VCAUSE), INTERRUPT | 1);
        due("its EPC", rig.told(Rig.VEPC), AT + 8);
        rig.host.run(4);
        due("VS CAUSE seen in VS", rig.get(6), INTERRUPT | 1);
        due("back", rig.pc(), AT + 12);
        due("back in VS", rig.mode(), Rig.VS);
        due("no trap to S", rig.host.count(4), 0);
        due("one interrupt", rig.host.count(6), 1);
    }

    private static void alarmsAndLines() {
        Rig rig = rig(Rig.S).register(17, 0).register(10, 4).words(AT, Asm.ECALL, Asm.NOP, Asm.NOP, Asm.NOP, Asm.NOP);
        rig.control(Rig.IE, 0x20).control(Rig.STATUS, IE_BIT).host.run(4);
        due("before the ALARM", rig.host.count(6), 0);
        due("IP at it", rig.told(Rig.IP), 0x20);
        rig.host.run(1);
        due("at the ALARM", rig.told(Rig.CAUSE), INTERRUPT | 5);
        due("its EPC", rig.told(Rig.EPC), AT + 16);
        rig = rig(Rig.U).control(Rig.IE, 0x200).words(AT, Asm.NOP).words(TVEC, Asm.SRET);
        rig.host.line(true);
        rig.host.run(3);
        due("the line again and again", rig.host.count(6), 2);
        rig.host.line(false);
        rig.host.run(2);
        due("the line off", rig.host.count(6), 2);
        due("on at last", rig.pc(), AT + 4);
    }

    /** U of a guest calls its VS, which calls S, and back again. */
    private static void chain() {
        Rig rig = rig(Rig.VU).control(Rig.HEDELEG, 1 << 8).words(AT, Asm.ECALL, Asm.add(5, 5, 1));
        rig.words(VTVEC, Asm.ECALL, Asm.control(2, 8, Rig.EPC, 0), Asm.add(8, 8, 4), Asm.control(1, 0, Rig.EPC, 8), Asm.SRET);
        rig.words(TVEC, Asm.control(2, 9, Rig.EPC, 0), Asm.add(9, 9, 4), Asm.control(1, 0, Rig.EPC, 9), Asm.SRET);
        rig.host.run(11);
        due("chain: x5", rig.get(5), 1);
        due("chain: mode", rig.mode(), Rig.VU);
        due("chain: PC", rig.pc(), AT + 8);
        due("chain: CAUSE", rig.told(Rig.CAUSE), 10);
        due("chain: VS CAUSE", rig.told(Rig.VCAUSE), 8);
        due("chain: traps", rig.host.count(4) * 10 + rig.host.count(5), 11);
    }
}
