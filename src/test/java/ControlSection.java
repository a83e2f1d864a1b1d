/** CONTROL REGISTERS: what they keep, what they tell, and who may touch them. */
final class ControlSection extends Section {
    private static final int[] WAYS = {1, 2, 3, 5, 6, 7};

    ControlSection(Checks checks) {
        super(checks);
    }

    @Override
    void run() {
        numbers();
        vsNumbers();
        hNumbers();
        times();
        atFirst();
        meantInVs();
        keptByStatus();
        keptBySome();
        keptByInterrupts();
        keptByOthers();
        notKept();
        tellsOfIp();
        tellsOfHip();
        vsIp();
        vsIe();
        accessToNone();
        accessInS();
        accessInU();
        accessInVs();
        accessInVu();
    }

    /** That every register of some numbers holds its own. */
    private void areApart(int[] numbers) {
        for (int number : numbers) {
            Rig rig = new Rig().control(Rig.HIDELEG, number == Rig.VIE || number == Rig.VIP ? -1 : 0);
            rig.control(number, 0x226);
            due(number + " holds something", rig.told(number) != 0, true);
            for (int other : numbers) {
                boolean isShared = number == Rig.HIP && other == Rig.HVIP || number == Rig.HVIP && other == Rig.HIP;
                if (other != number && !isShared) {
                    due(other + " beside " + number, rig.told(other), 0);
                }
            }
        }
    }

    private void numbers() {
        says("CONTROL REGISTERS have numbers of 12 bits.");
        due("0xc01 by an instruction", Rig.in(Rig.S).step(Asm.NOP).step(Asm.control(2, 5, 0xc01, 0)).x(5), 1);
        due("0xc01 from outside", Rig.in(Rig.S).step(Asm.NOP).told(0xc01), 1);
        due("more bits", Rig.in(Rig.S).step(Asm.NOP).told(0x1c01), 0);
        due("more bits, written", new HyperHost().setControl(0x1140, 5), -1);
        says("S ones: 0x100 STATUS (bits 1 IE, 5 PIE, 8 PP, 18 SUM, 19 MXR), 0x104 IE, 0x105 TVEC, 0x140 SCRATCH, "
            + "0x141 EPC, 0x142 CAUSE, 0x143 TVAL, 0x144 IP, 0x180 ATP.");
        areApart(Rig.S_NUMBERS);
        Rig rig = Rig.in(Rig.U).control(Rig.STATUS, Rig.IE_BIT).step(127);
        due("EPC", rig.told(0x141), Rig.AT);
        due("CAUSE", rig.told(0x142), 2);
        due("TVAL", rig.told(0x143), 127);
        due("STATUS", rig.told(0x100), Rig.PIE);
    }

    private void vsNumbers() {
        says("VS ones, the same by kind: 0x200, 0x204, 0x205, 0x240 to 0x244, 0x280.");
        areApart(Rig.VS_NUMBERS);
        for (int i = 0; i < Rig.S_NUMBERS.length; i++) {
            Rig rig = new Rig().control(Rig.HIDELEG, -1).control(Rig.VS_NUMBERS[i], -1);
            int kept = new Rig().control(Rig.S_NUMBERS[i], -1).told(Rig.S_NUMBERS[i]);
            due(Rig.VS_NUMBERS[i] + " as its kind", rig.told(Rig.VS_NUMBERS[i]), kept);
            due(Rig.S_NUMBERS[i] + " is another", rig.told(Rig.S_NUMBERS[i]), 0);
        }
    }

    private void hNumbers() {
        says("H ones: 0x600 HSTATUS (bits 6 GVA, 7 SPV, 8 SPVP, 9 HU, 20 VTVM, 21 VTW, 22 VTSR), 0x602 HEDELEG, "
            + "0x603 HIDELEG, 0x604 HIE, 0x643 HTVAL, 0x644 HIP, 0x645 HVIP, 0x64a HTINST, 0x680 HGATP.");
        areApart(Rig.H_NUMBERS);
    }

    private void times() {
        says("0xc01 TIME, 0xc81 its upper 32 bits.");
        Rig rig = Rig.in(Rig.S).run(2000).run(2000);
        due("TIME", rig.told(0xc01), 4000);
        due("its upper bits", rig.told(0xc81), 0);
    }

    private void atFirst() {
        says("All are 0 at first.");
        Rig rig = new Rig();
        for (int[] numbers : new int[][] {Rig.S_NUMBERS, Rig.VS_NUMBERS, Rig.H_NUMBERS, {Rig.TIME, Rig.TIME_UPPER}}) {
            for (int number : numbers) {
                due(number + " at first", rig.told(number), 0);
            }
        }
    }

    private void meantInVs() {
        says("In VS an S number means the VS one of its kind.");
        for (int number : Rig.S_NUMBERS) {
            Rig rig = Rig.in(Rig.VS).control(Rig.HIDELEG, -1).control(number, 0).control(number + 0x100, 0)
                .register(5, 0x222);
            rig.words(Rig.AT, Asm.control(1, 6, number, 5), Asm.control(2, 7, number, 0)).run(2);
            int kept = new Rig().control(number, 0x222).told(number);
            due("the VS one of " + number, rig.told(number + 0x100), kept);
            due("the S one of " + number, rig.told(number), 0);
            due("what VS reads of " + number, rig.x(7), kept);
        }
        Rig rig = Rig.in(Rig.S).register(5, 9).step(Asm.control(1, 6, Rig.SCRATCH, 5));
        due("in S it is the S one", rig.told(Rig.SCRATCH) * 10 + rig.told(Rig.VSCRATCH), 90);
    }

    // What a write keeps

    /** That a register keeps some bits alone, each by itself, by setControl and by an instruction. */
    private void keeps(int number, int mask) {
        for (int n = -1; n <= 32; n++) {
            int v = n < 0 ? 0 : n == 32 ? -1 : 1 << n;
            Rig rig = Rig.in(Rig.S).control(number, v);
            due(number + " of " + v, rig.told(number), v & mask);
            rig = Rig.in(Rig.S).control(number, ~v).register(6, v).step(Asm.control(1, 0, number, 6));
            due(number + " of " + v + " by an instruction", rig.told(number), v & mask);
        }
    }

    private void keptByStatus() {
        says("What a write keeps: STATUS, HSTATUS the bits named;");
        keeps(Rig.VSTATUS, 0xc0122);
        keeps(Rig.HSTATUS, 0x7003c0);
        // An S whose IE is on is not interrupted, as nothing is due.
        keeps(Rig.STATUS, 0xc0122);
    }

    private void keptBySome() {
        says("TVEC all but bit 1;");
        keeps(Rig.TVEC, ~2);
        keeps(Rig.VTVEC, ~2);
        says("EPC all but bits 0, 1;");
        keeps(Rig.EPC, ~3);
        keeps(Rig.VEPC, ~3);
        says("ATP bits 31 and 21 .. 0;");
        keepsRoot(Rig.ATP, 0x803fffff);
        keeps(Rig.VATP, 0x803fffff);
        says("HGATP 31 and 21 .. 2;");
        keeps(Rig.HGATP, 0x803ffffc);
        says("HEDELEG bits 0 to 8, 12, 13, 15;");
        keeps(Rig.HEDELEG, 0xb1ff);
    }

    /** ATP can't be on before the instruction that writes it, as it would be fetched by it. */
    private void keepsRoot(int number, int mask) {
        for (int n = -1; n <= 32; n++) {
            int v = n < 0 ? 0 : n == 32 ? -1 : 1 << n;
            due(number + " of " + v, Rig.in(Rig.S).control(number, v).told(number), v & mask);
            Rig rig = Rig.in(Rig.S).register(6, v).step(Asm.control(1, 0, number, 6));
            due(number + " of " + v + " by an instruction", rig.told(number), v & mask);
        }
    }

    private void keptByInterrupts() {
        says("S IE bits 1, 5, 9;");
        keeps(Rig.IE, 0x222);
        says("HIDELEG, HIE, HVIP bits 2, 6, 10;");
        keeps(Rig.HIDELEG, 0x444);
        keeps(Rig.HIE, 0x444);
        keeps(Rig.HVIP, 0x444);
        says("HIP bit 2, which is that of HVIP;");
        keeps(Rig.HIP, 4);
        Rig rig = new Rig().control(Rig.HIP, -1);
        due("HVIP by HIP", rig.told(Rig.HVIP), 4);
        due("HIP by HVIP", rig.control(Rig.HVIP, 0).told(Rig.HIP), 0);
        due("HVIP by HIP again", rig.control(Rig.HVIP, 4).control(Rig.HIP, ~4).told(Rig.HVIP), 0);
        says("S IP bit 1;");
        keeps(Rig.IP, 2);
    }

    private void keptByOthers() {
        says("others all.");
        for (int number : new int[] {Rig.SCRATCH, Rig.CAUSE, Rig.TVAL, Rig.VSCRATCH, Rig.VCAUSE, Rig.VTVAL, Rig.HTVAL,
            Rig.HTINST}) {
            keeps(number, -1);
        }
    }

    private void notKept() {
        says("What is not kept is 0 (of IP, HIP: as it was).");
        due("STATUS", new Rig().control(Rig.STATUS, -1).told(Rig.STATUS), 0xc0122);
        Rig rig = new Rig().control(Rig.HVIP, 0x440);
        due("HIP as it was, bit 2 set", rig.control(Rig.HIP, 4).told(Rig.HIP), 0x444);
        due("HIP as it was, cleared", rig.control(Rig.HIP, 0).told(Rig.HIP), 0x440);
        due("HIP as it was, none set", rig.control(Rig.HVIP, 0).control(Rig.HIP, -1).told(Rig.HIP), 4);
        rig = Rig.in(Rig.S).call(0, 0, 0).line(true);
        due("IP as it was, bit 1 set", rig.control(Rig.IP, 2).told(Rig.IP), 0x222);
        due("IP as it was, cleared", rig.control(Rig.IP, 0).told(Rig.IP), 0x220);
        due("IP as it was, none set", new Rig().control(Rig.IP, -1).told(Rig.IP), 2);
        due("the line is off still", new Rig().control(Rig.IP, -1).host().line(false), false);
    }

    // What they tell

    private void tellsOfIp() {
        says("S IP tells bit 1 as written,");
        due("set", new Rig().control(Rig.IP, 2).told(Rig.IP), 2);
        due("cleared", new Rig().control(Rig.IP, 2).control(Rig.IP, 0).told(Rig.IP), 0);
        says("5: TIME is not below the ALARM,");
        Rig rig = Rig.in(Rig.S).call(0, 3, 0);
        due("TIME 1, ALARM 3", rig.told(Rig.IP), 0);
        due("TIME 2, ALARM 3", rig.step(Asm.NOP).told(Rig.IP), 0);
        due("TIME 3, ALARM 3", rig.step(Asm.NOP).told(Rig.IP), 0x20);
        due("TIME 4, ALARM 3", rig.step(Asm.NOP).told(Rig.IP), 0x20);
        due("a new ALARM", rig.call(0, 6, 0).told(Rig.IP), 0);
        due("ALARM 0", Rig.in(Rig.S).call(0, 0, 0).told(Rig.IP), 0x20);
        due("the ALARM at first", Rig.in(Rig.S).run(2000).told(Rig.IP), 0);
        due("ALARM 2^32", Rig.in(Rig.S).call(0, 0, 1).told(Rig.IP), 0);
        due("ALARM 2^32 - 1", Rig.in(Rig.S).call(0, -1, 0).told(Rig.IP), 0);
        due("ALARM 2^31", Rig.in(Rig.S).call(0, LEAST, 0).told(Rig.IP), 0);
        due("ALARM 2^63", Rig.in(Rig.S).call(0, 0, LEAST).told(Rig.IP), 0);
        rig = Rig.in(Rig.S).call(0, 3, 0).words(Rig.AT + 4, read(8), read(9), read(10)).run(3);
        due("within the step of TIME 2", rig.x(9), 0);
        due("within the step of TIME 3", rig.x(10), 0x20);
        says("9: the LINE is on.");
        due("on", new Rig().line(true).told(Rig.IP), 0x200);
        due("off again", new Rig().line(true).line(false).told(Rig.IP), 0);
        due("read within a step", Rig.in(Rig.S).line(true).step(read(5)).x(5), 0x200);
    }

    private static int read(int d) {
        return Asm.control(2, d, Rig.IP, 0);
    }

    private void tellsOfHip() {
        says("HIP tells HVIP.");
        for (int v : new int[] {0, 4, 0x40, 0x400, 0x444}) {
            due("HIP of " + v, new Rig().control(Rig.HVIP, v).told(Rig.HIP), v);
        }
        Rig rig = new Rig().control(Rig.HVIP, 0x444).control(Rig.HIDELEG, -1).control(Rig.IP, 2).line(true);
        due("HIP whatever is passed", rig.told(Rig.HIP), 0x444);
    }

    private void vsIp() {
        says("VS IP tells bits 2, 6, 10 of HVIP and HIDELEG, one place lower;");
        for (int passed = 0; passed < 8; passed++) {
            for (int raised = 0; raised < 8; raised++) {
                Rig rig = new Rig().control(Rig.HIDELEG, spread(passed) * 4).control(Rig.HVIP, spread(raised) * 4);
                due("VS IP of " + raised + ", " + passed, rig.told(Rig.VIP), spread(passed & raised) * 2);
            }
        }
        due("the line and IP are not told", new Rig().control(Rig.HIDELEG, -1).control(Rig.IP, 2).line(true)
            .told(Rig.VIP), 0);
        says("a write of it puts bit 1 to bit 2 of HVIP, if that is in HIDELEG.");
        for (int raised : new int[] {0, 4, 0x440, 0x444}) {
            Rig rig = new Rig().control(Rig.HIDELEG, 4).control(Rig.HVIP, raised);
            due("bit 1 set", rig.control(Rig.VIP, 2).told(Rig.HVIP), raised | 4);
            due("bit 1 cleared", rig.control(Rig.VIP, ~2).told(Rig.HVIP), raised & ~4);
            due("all set", rig.control(Rig.VIP, -1).told(Rig.HVIP), raised | 4);
            rig = new Rig().control(Rig.HIDELEG, 0x440).control(Rig.HVIP, raised);
            due("not in HIDELEG, set", rig.control(Rig.VIP, -1).told(Rig.HVIP), raised);
            due("not in HIDELEG, cleared", rig.control(Rig.VIP, 0).told(Rig.HVIP), raised);
        }
        due("S IP stays", new Rig().control(Rig.HIDELEG, -1).control(Rig.VIP, -1).told(Rig.IP), 0);
    }

    /** The three bits of a number at places 0, 4 and 8. */
    private static int spread(int three) {
        return three & 1 | (three & 2) << 3 | (three & 4) << 6;
    }

    private void vsIe() {
        says("VS IE tells HIE and HIDELEG one place lower;");
        for (int passed = 0; passed < 8; passed++) {
            for (int enabled = 0; enabled < 8; enabled++) {
                Rig rig = new Rig().control(Rig.HIDELEG, spread(passed) * 4).control(Rig.HIE, spread(enabled) * 4);
                due("VS IE of " + enabled + ", " + passed, rig.told(Rig.VIE), spread(passed & enabled) * 2);
            }
        }
        due("S IE is not told", new Rig().control(Rig.HIDELEG, -1).control(Rig.IE, -1).told(Rig.VIE), 0);
        says("a write puts bits 1, 5, 9 one place higher to HIE, those that are in HIDELEG.");
        for (int passed = 0; passed < 8; passed++) {
            for (int put = 0; put < 8; put++) {
                for (int before : new int[] {0, 0x444}) {
                    Rig rig = new Rig().control(Rig.HIDELEG, spread(passed) * 4).control(Rig.HIE, before);
                    rig.control(Rig.VIE, spread(put) * 2 | ~0x222);
                    int want = before & ~(spread(passed) * 4) | spread(passed & put) * 4;
                    due("HIE by VS IE " + put + ", passed " + passed, rig.told(Rig.HIE), want);
                }
            }
        }
        due("S IE stays", new Rig().control(Rig.HIDELEG, -1).control(Rig.VIE, -1).told(Rig.IE), 0);
    }

    // ACCESS

    /** Reads a number, then writes it in all ways: no trap, or an exception. */
    private void access(int mode, int hstatus, int number, int reading, int writing) {
        String what = "number " + number + " in " + mode;
        for (int f : WAYS) {
            boolean reads = f != 1 && f != 5;
            if (reads) {
                touch(what + " read by f " + f, mode, hstatus, Asm.control(f, 5, number, 0), reading);
            }
            touch(what + " written by f " + f, mode, hstatus, Asm.control(f, 5, number, reads ? 6 : 0), writing);
        }
    }

    private void touch(String what, int mode, int hstatus, int word, int cause) {
        Rig rig = new Rig().control(Rig.HSTATUS, hstatus).control(Rig.TVEC, Rig.TVEC_AT).place(Rig.AT, mode).step(word);
        due(what + ": traps", rig.count(4), cause == Rig.NO_TRAP ? 0 : 1);
        if (cause != Rig.NO_TRAP) {
            due(what + ": CAUSE", rig.told(Rig.CAUSE), cause);
            due(what + ": TVAL", rig.told(Rig.TVAL), word);
        }
    }

    /** That TIMEs can be read, for what they are, and not written. */
    private void timesIn(int mode, int hstatus) {
        access(mode, hstatus, Rig.TIME, Rig.NO_TRAP, ILLEGAL);
        access(mode, hstatus, Rig.TIME_UPPER, Rig.NO_TRAP, ILLEGAL);
        Rig rig = Rig.in(mode).control(Rig.HSTATUS, hstatus).step(Asm.NOP).step(Asm.control(2, 5, Rig.TIME, 0));
        due("TIME in " + mode, rig.x(5), 1);
        rig.register(5, 7).step(Asm.control(2, 5, Rig.TIME_UPPER, 0));
        due("its upper bits in " + mode, rig.x(5), 0);
    }

    private void accessToNone() {
        says("ACCESS: of a number that is none of these, or a write of 0xc01, 0xc81: illegal.");
        for (int mode = 0; mode < 4; mode++) {
            for (int number = 0; number < 4096; number++) {
                if (!Rig.isNumber(number)) {
                    touch(number + " in " + mode, mode, -1, Asm.control(2, 5, number, 0), ILLEGAL);
                    touch(number + " in " + mode, mode, 0, Asm.control(1, 5, number, 6), ILLEGAL);
                }
            }
            for (int number : new int[] {Rig.TIME, Rig.TIME_UPPER}) {
                access(mode, -1, number, Rig.NO_TRAP, ILLEGAL);
            }
        }
    }

    private void accessInS() {
        says("In S all others are allowed;");
        for (int hstatus : new int[] {0, -1}) {
            for (int[] numbers : new int[][] {Rig.S_NUMBERS, Rig.VS_NUMBERS, Rig.H_NUMBERS}) {
                for (int number : numbers) {
                    access(Rig.S, hstatus, number, Rig.NO_TRAP, Rig.NO_TRAP);
                }
            }
        }
    }

    private void accessInU() {
        says("in U only TIMEs, others are illegal;");
        for (int hstatus : new int[] {0, -1}) {
            for (int[] numbers : new int[][] {Rig.S_NUMBERS, Rig.VS_NUMBERS, Rig.H_NUMBERS}) {
                for (int number : numbers) {
                    access(Rig.U, hstatus, number, ILLEGAL, ILLEGAL);
                }
            }
            timesIn(Rig.U, hstatus);
        }
    }

    private void accessInVs() {
        says("in VS S ones (but ATP with VTVM) and TIMEs,");
        for (int hstatus : new int[] {0, ~Rig.VTVM, Rig.VTVM, -1}) {
            for (int number : Rig.S_NUMBERS) {
                boolean barred = number == Rig.ATP && (hstatus & Rig.VTVM) != 0;
                access(Rig.VS, hstatus, number, barred ? VIRTUAL : Rig.NO_TRAP, barred ? VIRTUAL : Rig.NO_TRAP);
            }
            timesIn(Rig.VS, hstatus);
        }
    }

    private void accessInVu() {
        says("in VU TIMEs, others are VIRTUAL: exception 22.");
        for (int hstatus : new int[] {0, -1}) {
            for (int[] numbers : new int[][] {Rig.VS_NUMBERS, Rig.H_NUMBERS}) {
                for (int number : numbers) {
                    access(Rig.VS, hstatus, number, VIRTUAL, VIRTUAL);
                    access(Rig.VU, hstatus, number, VIRTUAL, VIRTUAL);
                }
            }
            for (int number : Rig.S_NUMBERS) {
                access(Rig.VU, hstatus, number, VIRTUAL, VIRTUAL);
            }
            timesIn(Rig.VU, hstatus);
        }
        Rig rig = Rig.in(Rig.VS).control(Rig.HGATP, 0).register(6, 77).step(Asm.control(1, 6, Rig.HTVAL, 6));
        due("nothing is written", rig.told(Rig.HTVAL), 0);
        due("nothing is put", rig.x(6), 77);
    }
}
