/** Promise 12, run: op 115 but for its loads and stores, in all four modes. */
public final class SystemTest {
    private static final Checks CHECKS = new Checks();
    private static final int AT = 4096;
    private static final int TVEC = 512;
    private static final int VTVEC = 768;
    private static final int ILLEGAL = 2;
    private static final int VIRTUAL = 22;
    private static final int FINE = -1;

    public static void main(String[] args) {
        controlForms();
        controlAccess();
        sNumbersInVs();
        calls();
        firmware();
        breaks();
        returns();
        byMode();
        illegal();
        CHECKS.finish();
    }

    private static void due(String what, long got, long want) {
        CHECKS.due(what, got, want);
    }

    private static Rig rig(int mode) {
        return new Rig().control(Rig.TVEC, TVEC).control(Rig.VTVEC, VTVEC).control(Rig.CAUSE, FINE).place(AT, mode);
    }

    /** The cause of what an instruction in a mode comes to; TVAL is looked at, too. */
    private static void outcome(String what, Rig rig, int word, int cause) {
        int pc = rig.pc();
        rig.step(word);
        due(what + ": CAUSE", rig.told(Rig.CAUSE), cause);
        due(what + ": PC", rig.pc(), cause == FINE ? pc + 4 : TVEC);
        if (cause == ILLEGAL || cause == VIRTUAL) {
            due(what + ": TVAL", rig.told(Rig.TVAL), word);
        }
    }

    private static void form(int f, int a, int v, int want) {
        Rig rig = rig(Rig.S).control(Rig.SCRATCH, 0x0ff0).register(a, v).register(5, 77);
        rig.step(Asm.control(f, 5, Rig.SCRATCH, a));
        due("f " + f + ": x[d]", rig.get(5), 0x0ff0);
        due("f " + f + ": the register", rig.told(Rig.SCRATCH), want);
        due("f " + f + ": PC", rig.pc(), AT + 4);
    }

    private static void controlForms() {
        form(1, 6, -5, -5);
        form(2, 6, 0x00ff, 0x0fff);
        form(3, 6, 0x00ff, 0x0f00);
        form(5, 29, -5, 29);
        form(6, 29, -5, 0x0ffd);
        form(7, 16, -5, 0x0fe0);
        form(1, 0, 9, 0);
        form(5, 0, 9, 0);
        for (int f : new int[] {2, 3, 6, 7}) {
            form(f, 0, 9, 0x0ff0);
        }
        Rig rig = rig(Rig.S).control(Rig.SCRATCH, 8).register(5, 21).step(Asm.control(1, 5, Rig.SCRATCH, 5));
        due("a register for itself: x", rig.get(5), 8);
        due("a register for itself", rig.told(Rig.SCRATCH), 21);
        rig = rig(Rig.S).register(5, -1).step(Asm.control(1, 0, Rig.STATUS, 5));
        due("a write keeps its bits", rig.told(Rig.STATUS), 0xc0122);
        rig = rig(Rig.S).register(5, 2);
        rig.host.line(true);
        rig.step(Asm.control(2, 6, Rig.IP, 5));
        due("IP as it was", rig.get(6), 0x200);
        due("IP with bit 1", rig.told(Rig.IP), 0x202);
        rig = rig(Rig.S).control(Rig.HVIP, 0x440).register(5, -1).step(Asm.control(2, 6, Rig.HIP, 5));
        due("HVIP by HIP", rig.told(Rig.HVIP), 0x444);
    }

    private static void access(String what, int number, int[] causes) {
        for (int mode = 0; mode < 4; mode++) {
            outcome(what + " " + number + " read in " + mode, rig(mode), Asm.control(2, 0, number, 0), causes[mode]);
        }
    }

    private static void controlAccess() {
        for (int number : Rig.S_NUMBERS) {
            if (number != Rig.CAUSE) {
                access("S", number, new int[] {ILLEGAL, FINE, VIRTUAL, FINE});
            }
        }
        for (int[] numbers : new int[][] {Rig.VS_NUMBERS, Rig.H_NUMBERS}) {
            for (int number : numbers) {
                access("VS or H", number, new int[] {ILLEGAL, FINE, VIRTUAL, VIRTUAL});
            }
        }
        for (int number : new int[] {0, 0x101, 0x145, 0x245, 0x300, 0x601, 0x646, 0xc00, 0xc02, 0xfff}) {
            access("none", number, new int[] {ILLEGAL, ILLEGAL, ILLEGAL, ILLEGAL});
        }
        for (int number : new int[] {Rig.TIME, Rig.TIME_UPPER}) {
            access("TIME", number, new int[] {FINE, FINE, FINE, FINE});
            for (int mode = 0; mode < 4; mode++) {
                for (int f : new int[] {1, 5}) {
                    outcome("TIME written in " + mode, rig(mode), Asm.control(f, 0, number, 0), ILLEGAL);
                }
                for (int f : new int[] {2, 3, 6, 7}) {
                    outcome("TIME set in " + mode, rig(mode), Asm.control(f, 5, number, 6), ILLEGAL);
                }
            }
        }
        for (int f : new int[] {1, 2}) {
            outcome("ATP in VS", rig(Rig.VS).control(Rig.HSTATUS, ~(1 << 20)), Asm.control(f, 0, Rig.ATP, 0), FINE);
            outcome("ATP in VS, VTVM", rig(Rig.VS).control(Rig.HSTATUS, 1 << 20), Asm.control(f, 0, Rig.ATP, 0), VIRTUAL);
        }
        outcome("ATP in S, VTVM", rig(Rig.S).control(Rig.HSTATUS, -1), Asm.control(1, 0, Rig.ATP, 0), FINE);
        outcome("TVEC in VS, VTVM", rig(Rig.VS).control(Rig.HSTATUS, -1), Asm.control(2, 0, Rig.TVEC, 0), FINE);
        Rig rig = rig(Rig.U).control(Rig.SCRATCH, 5).register(6, 77).step(Asm.control(1, 6, Rig.SCRATCH, 0));
        due("what is illegal writes nothing", rig.told(Rig.SCRATCH), 5);
        due("and puts nothing", rig.get(6), 77);
    }

    private static void sNumbersInVs() {
        for (int number : Rig.S_NUMBERS) {
            Rig rig = rig(Rig.VS).control(Rig.HIDELEG, 0x444).control(number, 0).control(number + 0x100, 0);
            rig.register(5, 0x222).step(Asm.control(1, 6, number, 5));
            int kept = number == Rig.STATUS ? 0x22 : number == Rig.IP ? 2 : number == Rig.EPC || number == Rig.TVEC ? 0x220 : 0x222;
            due("the VS one of " + number, rig.told(number + 0x100), kept);
            due("the S one of " + number, rig.told(number), 0);
        }
        Rig rig = rig(Rig.VS).control(Rig.HIDELEG, 0x40).control(Rig.HIE, 4).register(5, -1);
        rig.step(Asm.control(1, 6, Rig.IE, 5)).step(Asm.control(2, 7, Rig.IE, 0));
        due("HIE by IE in VS", rig.told(Rig.HIE), 0x44);
        due("IE in VS", rig.get(7), 0x20);
    }

    private static void calls() {
        int[] causes = {8, FINE, 8, 10};
        for (int mode = 0; mode < 4; mode++) {
            Rig rig = rig(mode).control(Rig.TVAL, 5);
            outcome("ecall in " + mode, rig, Asm.ECALL, causes[mode]);
            due("TVAL of ecall", rig.told(Rig.TVAL), mode == Rig.S ? 5 : 0);
            due("traps of ecall", rig.host.count(4), mode == Rig.S ? 0 : 1);
        }
    }

    private static void alarm(int lower, int upper, int wantLower, int wantUpper) {
        Rig rig = rig(Rig.S).register(17, 0).register(10, lower).register(11, upper).step(Asm.ECALL);
        due("the ALARM", rig.host.count(9), wantLower);
        due("the ALARM's upper bits", rig.host.count(10), wantUpper);
        due("x10", rig.get(10), 0);
        due("x11", rig.get(11), upper);
    }

    private static void firmware() {
        alarm(7, 0, 7, 0);
        alarm(-1, 0, -1, 0);
        alarm(5, Integer.MAX_VALUE, 5, Integer.MAX_VALUE);
        alarm(5, Integer.MIN_VALUE, -1, Integer.MAX_VALUE);
        alarm(0, -1, -1, Integer.MAX_VALUE);
        Rig rig = rig(Rig.S).register(17, 0).register(10, 3).step(Asm.ECALL).step(Asm.NOP);
        due("IP before the ALARM", rig.told(Rig.IP), 0);
        due("IP at the ALARM", rig.step(Asm.NOP).told(Rig.IP), 0x20);
        due("IP behind the ALARM", rig.step(Asm.NOP).told(Rig.IP), 0x20);
        for (int call : new int[] {2, 7, 9, -1, 0x100, Integer.MIN_VALUE}) {
            rig = rig(Rig.S).register(17, call).register(10, 65).step(Asm.ECALL);
            due("x10 of call " + call, rig.get(10), -2);
            due("no console of call " + call, rig.host.count(7), 0);
            due("on at call " + call, rig.host.count(8), 0);
            due("PC of call " + call, rig.pc(), AT + 4);
        }
        rig = rig(Rig.S).register(17, 1).words(AT, Asm.add(10, 0, 66), Asm.ECALL, Asm.jump(0, -8));
        for (int i = 0; i < 7; i++) {
            rig.host.run(2000);
        }
        due("the console is full", rig.host.count(7), 4096);
        due("its last byte", rig.host.console(4095), 66);
        due("none behind it", rig.host.console(4096), -1);
        rig.register(10, 67).step(Asm.ECALL);
        due("more are lost", rig.host.console(4095), 66);
        due("x10 of a lost one", rig.get(10), 0);
    }

    private static void breaks() {
        for (int mode = 0; mode < 4; mode++) {
            Rig rig = rig(mode);
            outcome("ebreak in " + mode, rig, Asm.EBREAK, 3);
            due("TVAL of ebreak", rig.told(Rig.TVAL), AT);
            due("GVA of ebreak in " + mode, rig.told(Rig.HSTATUS) >> 6 & 1, mode >= Rig.VU ? 1 : 0);
        }
    }

    private static void returned(String what, Rig rig, int mode, int pc) {
        rig.step(Asm.SRET);
        due(what + ": mode", rig.mode(), mode);
        due(what + ": PC", rig.pc(), pc);
        due(what + ": no trap", rig.host.count(4) + rig.host.count(5), 0);
    }

    private static void returns() {
        int pp = 1 << 8;
        int spv = 1 << 7;
        for (int was = 0; was < 4; was++) {
            Rig rig = rig(Rig.S).control(Rig.EPC, 2047).control(Rig.VEPC, 64);
            rig.control(Rig.STATUS, (was & 1) == 1 ? pp | 0xc0020 : 2).control(Rig.HSTATUS, was >= 2 ? -1 : ~spv);
            rig.control(Rig.VSTATUS, -1);
            returned("sret of S to " + was, rig, was, 2044);
            due("STATUS", rig.told(Rig.STATUS), (was & 1) == 1 ? 0xc0022 : 0x20);
            due("HSTATUS", rig.told(Rig.HSTATUS), 0x7003c0 & ~spv);
            due("VS STATUS", rig.told(Rig.VSTATUS), 0xc0122);
        }
        for (int was = 0; was < 2; was++) {
            for (int hstatus : new int[] {0, 0x3003c0}) {
                Rig rig = rig(Rig.VS).control(Rig.EPC, 64).control(Rig.VEPC, 2044).control(Rig.STATUS, 0xc0100);
                rig.control(Rig.VSTATUS, was == 1 ? pp | 0xc0020 : 2).control(Rig.HSTATUS, hstatus);
                returned("sret of VS to " + was, rig, 2 + was, 2044);
                due("VS STATUS", rig.told(Rig.VSTATUS), was == 1 ? 0xc0022 : 0x20);
                due("STATUS", rig.told(Rig.STATUS), 0xc0100);
                due("HSTATUS stays", rig.told(Rig.HSTATUS), hstatus);
            }
        }
        outcome("sret of VS, VTSR", rig(Rig.VS).control(Rig.HSTATUS, 1 << 22), Asm.SRET, VIRTUAL);
        outcome("sret of VU", rig(Rig.VU), Asm.SRET, VIRTUAL);
        outcome("sret of VU, VTSR", rig(Rig.VU).control(Rig.HSTATUS, 1 << 22), Asm.SRET, VIRTUAL);
        outcome("sret of U", rig(Rig.U).control(Rig.HSTATUS, -1), Asm.SRET, ILLEGAL);
    }

    private static void modes(String what, int word, int hstatus, int[] causes) {
        for (int mode = 0; mode < 4; mode++) {
            outcome(what + " in " + mode, rig(mode).control(Rig.HSTATUS, hstatus), word, causes[mode]);
        }
    }

    private static void byMode() {
        int[] free = {ILLEGAL, FINE, VIRTUAL, FINE};
        int[] barred = {ILLEGAL, FINE, VIRTUAL, VIRTUAL};
        modes("wfi", Asm.WFI, ~(1 << 21), free);
        modes("wfi, VTW", Asm.WFI, 1 << 21, barred);
        int sfence = Asm.registerForm(115, 0, 0, 3, 31, 9);
        modes("sfence", sfence, ~(1 << 20), free);
        modes("sfence, VTVM", sfence, 1 << 20, barred);
        modes("plain sfence", Asm.SFENCE, 0, free);
        for (int g : new int[] {17, 49}) {
            modes("hfence " + g, Asm.registerForm(115, 0, 0, 31, 7, g), 0, barred);
            modes("hfence " + g, Asm.registerForm(115, 0, 0, 0, 0, g), -1, barred);
        }
    }

    private static void illegal() {
        int[] words = {
            Asm.ECALL | 1 << 7, Asm.ECALL | 1 << 15, Asm.EBREAK | 1 << 7, Asm.EBREAK | 1 << 15, Asm.SRET | 1 << 11,
            Asm.SRET | 1 << 19, Asm.WFI | 1 << 7, Asm.WFI | 1 << 15, Asm.SFENCE | 1 << 7,
            Asm.registerForm(115, 0, 1, 0, 0, 17), Asm.registerForm(115, 0, 16, 0, 0, 49),
            Asm.immediateForm(115, 0, 0, 0, 2), Asm.immediateForm(115, 0, 0, 0, 257), Asm.immediateForm(115, 0, 0, 0, 0x302),
            Asm.registerForm(115, 0, 0, 0, 0, 10), Asm.registerForm(115, 0, 0, 0, 0, 11), Asm.registerForm(115, 0, 0, 0, 0, 48),
        };
        for (int word : words) {
            for (int mode = 0; mode < 4; mode++) {
                outcome("illegal " + Integer.toHexString(word) + " in " + mode, rig(mode), word, ILLEGAL);
            }
        }
    }
}
