/** SYSTEM: op 115, but for its loads and stores. */
final class SystemSection extends Section {
    private static final int AT = Rig.AT;
    private static final int FINE = Rig.NO_TRAP;

    SystemSection(Checks checks) {
        super(checks);
    }

    @Override
    void run() {
        controlNumbers();
        controlSources();
        controlWays();
        controlWrites();
        forms();
        calls();
        alarms();
        consoles();
        off();
        answers();
        breaks();
        returnsOfS();
        returnsOfVs();
        returnsRefused();
        waits();
        fences();
        guestFences();
    }

    // Control registers

    private void controlNumbers() {
        says("SYSTEM, op 115. f 1, 2, 3, 5, 6, 7: control register I (12 bits, U);");
        for (int f : new int[] {1, 2, 3, 5, 6, 7}) {
            Rig rig = Rig.in(Rig.S).control(Rig.SCRATCH, 0x0ff0).step(Asm.control(f, 5, Rig.SCRATCH, 0));
            due("f " + f, rig.x(5), 0x0ff0);
        }
        due("a number with its upper bit", Rig.in(Rig.S).step(Asm.NOP).step(Asm.control(2, 5, Rig.TIME, 0)).x(5), 1);
        outcome("0xc81", Rig.in(Rig.S), Asm.control(2, 5, Rig.TIME_UPPER, 0), FINE);
        outcome("0xfff", Rig.in(Rig.S), Asm.control(2, 5, 0xfff, 0), ILLEGAL);
        outcome("0", Rig.in(Rig.S), Asm.control(2, 5, 0, 0), ILLEGAL);
    }

    /** SCRATCH was 0x0ff0; f, with field a, where x[a] is v, leaves what is wanted. */
    private void way(int f, int a, int v, int want) {
        Rig rig = Rig.in(Rig.S).control(Rig.SCRATCH, 0x0ff0).register(a, v).register(5, 77);
        rig.step(Asm.control(f, 5, Rig.SCRATCH, a));
        due("f " + f + ", a " + a + ": SCRATCH", rig.told(Rig.SCRATCH), want);
        due("f " + f + ", a " + a + ": x[d]", rig.x(5), 0x0ff0);
        due("f " + f + ", a " + a + ": PC", rig.pc(), AT + 4);
    }

    private void controlSources() {
        says("the number is x[a], for f above 4 the field a:");
        way(1, 6, -5, -5);
        way(1, 31, LEAST, LEAST);
        way(5, 6, -5, 6);
        way(5, 31, -5, 31);
        way(5, 1, -5, 1);
        way(6, 31, 0, 0x0fff);
        way(7, 31, 0, 0x0fe0);
    }

    private void controlWays() {
        says("f 1, 5 it is written;");
        way(1, 6, 0x00ff, 0x00ff);
        way(1, 0, 9, 0);
        way(5, 0, 9, 0);
        way(5, 29, 9, 29);
        says("2, 6 the register's bits that are in it are set;");
        way(2, 6, 0x00ff, 0x0fff);
        way(2, 6, -1, -1);
        way(2, 6, 0, 0x0ff0);
        way(6, 29, 0, 0x0ffd);
        says("3, 7 cleared;");
        way(3, 6, 0x00ff, 0x0f00);
        way(3, 6, -1, 0);
        way(3, 6, 0, 0x0ff0);
        way(7, 16, 0, 0x0fe0);
        says("x[d] gets what it was.");
        Rig rig = Rig.in(Rig.S).control(Rig.SCRATCH, 8).register(5, 21).step(Asm.control(1, 5, Rig.SCRATCH, 5));
        due("one register for both: x[d]", rig.x(5), 8);
        due("one register for both: SCRATCH", rig.told(Rig.SCRATCH), 21);
        rig = Rig.in(Rig.S).control(Rig.SCRATCH, 8).register(6, 21).step(Asm.control(1, 0, Rig.SCRATCH, 6));
        due("x0", rig.x(0), 0);
        due("written all the same", rig.told(Rig.SCRATCH), 21);
        rig = Rig.in(Rig.S).line(true).register(6, 2).step(Asm.control(2, 5, Rig.IP, 6));
        due("what IP told", rig.x(5), 0x200);
        due("what IP tells", rig.told(Rig.IP), 0x202);
        rig = Rig.in(Rig.VS).control(Rig.HIDELEG, -1).control(Rig.HIE, 0x440).register(6, 2);
        rig.step(Asm.control(2, 5, Rig.IE, 6));
        due("what IE of VS told", rig.x(5), 0x220);
        due("what HIE is", rig.told(Rig.HIE), 0x444);
    }

    private void controlWrites() {
        says("For 2, 3, 6, 7 with field a 0 nothing is written;");
        for (int f : new int[] {2, 3, 6, 7}) {
            way(f, 0, 9, 0x0ff0);
            outcome("TIME, f " + f, Rig.in(Rig.U), Asm.control(f, 5, Rig.TIME, 0), FINE);
        }
        says("else it is a write.");
        for (int f : new int[] {2, 3, 6, 7}) {
            // x6 is 0: it is the field that counts.
            outcome("TIME, f " + f + ", a 6", Rig.in(Rig.S), Asm.control(f, 5, Rig.TIME, 6), ILLEGAL);
        }
        for (int f : new int[] {1, 5}) {
            outcome("TIME, f " + f + ", a 0", Rig.in(Rig.S), Asm.control(f, 0, Rig.TIME, 0), ILLEGAL);
            outcome("TIME, f " + f + ", a 6", Rig.in(Rig.S), Asm.control(f, 0, Rig.TIME, 6), ILLEGAL);
        }
    }

    // f 0

    private void forms() {
        says("f 0, with d 0, and a 0 where it is not used:");
        for (int i = 0; i < 4096; i++) {
            int g = i >> 5;
            boolean fence = g == 9 || g == 17 || g == 49;
            boolean other = i == 0 || i == 1 || i == 258 || i == 261;
            isForm(i, 0, 0, fence || other);
            isForm(i, 0, 7, fence);
            isForm(i, 3, 0, false);
        }
    }

    private void isForm(int i, int d, int a, boolean legal) {
        for (int mode = 0; mode < 4; mode++) {
            Rig rig = new Rig().place(AT, mode).step(Asm.immediateForm(115, 0, d, a, i));
            // What is legal may be another exception in some modes, but in S illegal is what is no form.
            boolean refused = rig.count(4) == 1 && rig.told(Rig.CAUSE) == ILLEGAL;
            if (!legal || mode == Rig.S) {
                due("I " + i + ", d " + d + ", a " + a + " in " + mode + " is illegal", refused, !legal);
            }
        }
    }

    private void calls() {
        says("I 0: ecall: exception 8 in U and VU, 10 in VS;");
        int[] causes = {8, FINE, 8, 10};
        for (int mode : new int[] {Rig.U, Rig.VU, Rig.VS}) {
            Rig rig = Rig.in(mode).control(Rig.TVAL, 5).register(17, 8).register(10, 65).step(Asm.ECALL);
            trapped("in " + mode, rig, causes[mode], 0);
            due("EPC", rig.told(Rig.EPC), AT);
            due("x10", rig.x(10), 65);
            due("the firmware does nothing", rig.count(7) + rig.count(8), 0);
        }
        says("in S the FIRMWARE does what x17 says:");
        Rig rig = Rig.in(Rig.S).call(1, 65, 0);
        untrapped("in S", rig);
        due("the console", rig.host().console(0), 65);
        due("PC", rig.pc(), AT + 4);
    }

    private void alarm(int lower, int upper, long want) {
        Rig rig = Rig.in(Rig.S).call(0, lower, upper);
        due("ALARM of " + lower + ", " + upper, rig.count(9), (int) want);
        due("its upper bits of " + lower + ", " + upper, rig.count(10), (int) (want >> 32));
        due("x11", rig.x(11), upper);
        due("x17", rig.x(17), 0);
    }

    private void alarms() {
        says("0: the ALARM is x10 and 2^32 x11 (U, 64 bits;");
        alarm(7, 0, 7);
        alarm(0, 0, 0);
        alarm(-1, 0, 0xffffffffL);
        alarm(0, 1, 1L << 32);
        alarm(LEAST, 5, 5L << 32 | 1L << 31);
        alarm(-1, MOST, Long.MAX_VALUE);
        alarm(5, MOST, (long) MOST << 32 | 5);
        says("2^63 - 1 at first;");
        due("at first", new HyperHost().count(9), -1);
        due("at first, upper bits", new HyperHost().count(10), MOST);
        says("what has bit 63 set becomes that);");
        alarm(5, LEAST, Long.MAX_VALUE);
        alarm(0, -1, Long.MAX_VALUE);
        alarm(-1, -1, Long.MAX_VALUE);
        due("and is never due", Rig.in(Rig.S).call(0, 0, LEAST).run(2000).told(Rig.IP), 0);
    }

    private void consoles() {
        says("1: the lowest byte of x10 goes to the CONSOLE");
        for (int v : new int[] {0, 65, 127, 128, 255, 256, -1, LEAST, 0x12345678}) {
            Rig rig = Rig.in(Rig.S).call(1, v, 0);
            due("the byte of " + v, rig.host().console(0), v & 255);
            due("there is one", rig.count(7), 1);
        }
        says("(of 4,096 bytes; more are lost);");
        Rig rig = Rig.in(Rig.S).register(17, 1);
        rig.words(AT, Asm.add(5, 5, 1), Asm.add(10, 5, 0), Asm.ECALL, Asm.jump(0, -12));
        for (int i = 0; i < 8; i++) {
            rig.run(2000);
        }
        due("behind 4,000", rig.count(7), 4000);
        rig.run(95 * 4);
        due("behind 4,095", rig.count(7), 4095);
        due("none behind them", rig.host().console(4095), -1);
        rig.run(4);
        due("behind 4,096", rig.count(7), 4096);
        due("the last one", rig.host().console(4095), 4096 & 255);
        due("none behind it", rig.host().console(4096), -1);
        rig.run(4).run(2000);
        due("behind more", rig.count(7), 4096);
        for (int i : new int[] {0, 1, 254, 255, 256, 4000, 4094, 4095}) {
            due("console(" + i + ") stays", rig.host().console(i), i + 1 & 255);
        }
        due("none behind it still", rig.host().console(4096), -1);
        rig.place(AT + 8, Rig.S).register(10, 65).run(1);
        due("x10 of one that is lost", rig.x(10), 0);
    }

    private void off() {
        says("8: the machine is OFF behind this step;");
        Rig rig = Rig.in(Rig.S).register(17, 8).register(10, 65).words(AT, Asm.ECALL, Asm.add(5, 0, 1));
        due("the step is done", rig.host().run(2), 1);
        due("OFF", rig.count(8), 1);
        due("TIME", rig.count(2), 1);
        due("the PC has gone on", rig.pc(), AT + 4);
        due("nothing more is done", rig.x(5), 0);
        due("x10", rig.x(10), 0);
    }

    private void answers() {
        says("x10 becomes 0, for another x17 -2 (this is no trap).");
        for (int call : new int[] {0, 1, 8}) {
            Rig rig = Rig.in(Rig.S).call(call, 65, 0);
            due("x10 of " + call, rig.x(10), 0);
            untrapped("call " + call, rig);
        }
        for (int call : new int[] {2, 3, 4, 5, 6, 7, 9, 10, 16, -1, 0x100, 0x108, LEAST, MOST}) {
            Rig rig = Rig.in(Rig.S).call(call, 65, 0);
            due("x10 of " + call, rig.x(10), -2);
            untrapped("call " + call, rig);
            due("no console of " + call, rig.count(7), 0);
            due("on at " + call, rig.count(8), 0);
            due("no ALARM of " + call, rig.count(9), -1);
            due("PC of " + call, rig.pc(), AT + 4);
        }
    }

    private void breaks() {
        says("I 1: ebreak: exception 3.");
        for (int mode = 0; mode < 4; mode++) {
            trapped("in " + mode, Rig.in(mode).step(Asm.EBREAK), 3, AT);
        }
    }

    // sret, wfi and fences

    private void returned(String what, Rig rig, int mode, int pc) {
        rig.step(Asm.SRET);
        untrapped(what, rig);
        due(what + ": mode", rig.mode(), mode);
        due(what + ": PC", rig.pc(), pc);
    }

    private void returnsOfS() {
        says("I 258: sret. In S: on at EPC, in mode PP of STATUS (0 U, 1 S), virtual if SPV;");
        for (int mode = 0; mode < 4; mode++) {
            for (int vs : new int[] {0, -1}) {
                int pp = mode == Rig.S || mode == Rig.VS ? Rig.PP : 0;
                Rig rig = Rig.in(Rig.S).control(Rig.EPC, 0x1234).control(Rig.VEPC, 64).control(Rig.STATUS, pp);
                rig.control(Rig.HSTATUS, Rig.isVirtual(mode) ? Rig.SPV : ~Rig.SPV)
                    .control(Rig.VSTATUS, vs & ~Rig.IE_BIT);
                returned("to " + mode, rig, mode, 0x1234);
            }
        }
        returned("to the last place", Rig.in(Rig.S).control(Rig.EPC, -1), Rig.U, -4);
        returned("SPVP does not count", Rig.in(Rig.S).control(Rig.HSTATUS, Rig.SPVP | Rig.SPV), Rig.VU, 0);
        returned("VTSR is not for S", Rig.in(Rig.S).control(Rig.HSTATUS, Rig.VTSR), Rig.U, 0);
        says("IE becomes PIE, PIE 1, PP 0, SPV 0.");
        for (int bits = 0; bits < 8; bits++) {
            int ie = (bits & 1) != 0 ? Rig.IE_BIT : 0;
            int pie = (bits & 2) != 0 ? Rig.PIE : 0;
            int pp = (bits & 4) != 0 ? Rig.PP : 0;
            Rig rig = Rig.in(Rig.S).control(Rig.STATUS, ie | pie | pp | Rig.SUM).control(Rig.VSTATUS, Rig.PP);
            rig.control(Rig.HSTATUS, -1).step(Asm.SRET);
            int want = Rig.SUM | Rig.PIE | (pie != 0 ? Rig.IE_BIT : 0);
            due("STATUS of " + bits, rig.told(Rig.STATUS), want);
            due("HSTATUS of " + bits, rig.hstatus(), 0x7003c0 & ~Rig.SPV);
            due("VS STATUS stays", rig.told(Rig.VSTATUS), Rig.PP);
        }
    }

    private void returnsOfVs() {
        says("In VS, without VTSR: so by VS ones, virtual (SPV stays).");
        for (int bits = 0; bits < 8; bits++) {
            int ie = (bits & 1) != 0 ? Rig.IE_BIT : 0;
            int pie = (bits & 2) != 0 ? Rig.PIE : 0;
            int pp = (bits & 4) != 0 ? Rig.PP : 0;
            for (int hstatus : new int[] {0, 0x7003c0 & ~Rig.VTSR}) {
                Rig rig = Rig.in(Rig.VS).control(Rig.EPC, 64).control(Rig.VEPC, 0x1234)
                    .control(Rig.STATUS, Rig.PP - pp);
                rig.control(Rig.VSTATUS, ie | pie | pp | Rig.MXR).control(Rig.HSTATUS, hstatus);
                returned("VS STATUS " + bits, rig, pp != 0 ? Rig.VS : Rig.VU, 0x1234);
                due("VS STATUS", rig.told(Rig.VSTATUS), Rig.MXR | Rig.PIE | (pie != 0 ? Rig.IE_BIT : 0));
                due("STATUS stays", rig.told(Rig.STATUS), Rig.PP - pp);
                due("HSTATUS stays", rig.hstatus(), hstatus);
            }
        }
    }

    private void returnsRefused() {
        says("In VS with VTSR and in VU: virtual exception; U: illegal.");
        outcome("VS, VTSR", Rig.in(Rig.VS).control(Rig.HSTATUS, Rig.VTSR), Asm.SRET, VIRTUAL);
        for (int hstatus : new int[] {0, -1}) {
            outcome("VU", Rig.in(Rig.VU).control(Rig.HSTATUS, hstatus), Asm.SRET, VIRTUAL);
            outcome("U", Rig.in(Rig.U).control(Rig.HSTATUS, hstatus), Asm.SRET, ILLEGAL);
        }
        int[] told = {0, 0, Rig.SPV, Rig.SPV | Rig.SPVP};
        for (int mode : new int[] {Rig.U, Rig.VU, Rig.VS}) {
            int status = Rig.PP | Rig.PIE;
            Rig rig = Rig.in(mode).control(Rig.STATUS, status).control(Rig.VSTATUS, status).control(Rig.EPC, 64);
            rig.control(Rig.VEPC, 64).control(Rig.HSTATUS, Rig.VTSR | Rig.SPV).step(Asm.SRET);
            due("VS STATUS stays in " + mode, rig.told(Rig.VSTATUS), status);
            due("STATUS is a trap's in " + mode, rig.told(Rig.STATUS), mode == Rig.VS ? Rig.PP : 0);
            due("HSTATUS is a trap's in " + mode, rig.hstatus(), Rig.VTSR | told[mode]);
        }
    }

    /** In all modes: fine in S, virtual in VU, illegal in U, and in VS by whether it is barred. */
    private void byMode(String what, int word, int hstatus, boolean barred) {
        int[] causes = {ILLEGAL, FINE, VIRTUAL, barred ? VIRTUAL : FINE};
        for (int mode = 0; mode < 4; mode++) {
            Rig rig = Rig.in(mode).control(Rig.HSTATUS, hstatus).register(5, 77);
            int sum = rig.host().sum(2, 62);
            outcome(what + " in " + mode, rig, word, causes[mode]);
            due(what + " does nothing", rig.host().sum(2, 62), sum);
            due(what + " puts nothing", rig.x(5), 77);
        }
    }

    private void waits() {
        says("I 261: wfi: S, and VS without VTW: nothing; VS with it, VU: virtual exception; U: illegal.");
        byMode("wfi", Asm.WFI, 0, false);
        byMode("wfi, all but VTW", Asm.WFI, ~Rig.VTW, false);
        byMode("wfi, VTW", Asm.WFI, Rig.VTW, true);
    }

    private void fences() {
        says("g 9: sfence (a, b any): S, and VS without VTVM: nothing; VS with it, VU: virtual exception; U: illegal.");
        for (int a : new int[] {0, 5, 31}) {
            for (int b : new int[] {0, 5, 31}) {
                int word = Asm.registerForm(115, 0, 0, a, b, 9);
                byMode("sfence", word, 0, false);
                byMode("sfence, all but VTVM", word, ~Rig.VTVM, false);
                byMode("sfence, VTVM", word, Rig.VTVM, true);
            }
        }
    }

    private void guestFences() {
        says("g 17, 49: hfence (a, b any): S nothing; VS, VU: virtual exception; U illegal.");
        for (int g : new int[] {17, 49}) {
            for (int a : new int[] {0, 5, 31}) {
                for (int b : new int[] {0, 5, 31}) {
                    int word = Asm.registerForm(115, 0, 0, a, b, g);
                    byMode("hfence " + g, word, 0, true);
                    byMode("hfence " + g + ", all bits", word, -1, true);
                }
            }
        }
    }
}
