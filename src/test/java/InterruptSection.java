/** INTERRUPTS: which is due when, for whom, and which is first. */
final class InterruptSection extends Section {
    private static final int AT = Rig.AT;
    private static final int[] ORDER = {9, 1, 5, 10, 2, 6};

    InterruptSection(Checks checks) {
        super(checks);
    }

    @Override
    void run() {
        forS();
        whenForS();
        order();
        forVs();
        whenForVs();
        orderForVs();
        oneAfterAnother();
        raisedByItself();
    }

    /** A machine that has all six raised and none enabled; the ALARM's needs a call of S. */
    private static Rig allRaised(int mode) {
        return Rig.in(Rig.S).call(0, 0, 0).control(Rig.IP, 2).line(true).control(Rig.HVIP, -1).place(AT, mode)
            .words(AT, Asm.add(5, 0, 1));
    }

    /** A machine that has one of the six raised and all enabled. */
    private static Rig oneRaised(int mode, int number) {
        Rig rig = number == 5 ? Rig.in(Rig.S).call(0, 0, 0) : Rig.in(Rig.S);
        rig.control(Rig.IP, number == 1 ? 2 : 0).line(number == 9);
        rig.control(Rig.HVIP, number == 2 || number == 6 || number == 10 ? 1 << number : 0);
        return rig.control(Rig.IE, -1).control(Rig.HIE, -1).place(AT, mode).words(AT, Asm.add(5, 0, 1));
    }

    /** One step: an interrupt for S, for VS, or for nobody. */
    private void comes(String what, Rig rig, int forS, int forVs) {
        rig.run(1);
        boolean none = forS < 0 && forVs < 0;
        due(what + ": CAUSE", rig.told(Rig.CAUSE), forS < 0 ? Rig.NO_TRAP : Rig.INTERRUPT | forS);
        due(what + ": VS CAUSE", rig.told(Rig.VCAUSE), forVs < 0 ? Rig.NO_TRAP : Rig.INTERRUPT | forVs);
        due(what + ": interrupts", rig.count(6), none ? 0 : 1);
        due(what + ": the instruction is done", rig.x(5), none ? 1 : 0);
        if (!none) {
            due(what + ": mode", rig.mode(), forS < 0 ? Rig.VS : Rig.S);
            due(what + ": EPC", rig.told(forS < 0 ? Rig.VEPC : Rig.EPC), AT);
        }
    }

    private void forS() {
        says("INTERRUPTS. For S: IP and IE (bits 9, 1, 5), and HVIP and HIE without HIDELEG (10, 2, 6);");
        for (int number : ORDER) {
            boolean own = number == 9 || number == 1 || number == 5;
            comes(number + " raised and enabled", oneRaised(Rig.U, number), number, -1);
            comes(number + " not enabled", oneRaised(Rig.U, number).control(own ? Rig.IE : Rig.HIE, ~(1 << number)), -1,
                -1);
            Rig rig = oneRaised(Rig.U, number).control(own ? Rig.HIE : Rig.IE, 0);
            comes(number + " enabled by its own", rig, number, -1);
            rig = oneRaised(Rig.U, number).control(Rig.HIDELEG, -1);
            comes(number + " in HIDELEG", rig, own ? number : -1, -1);
            rig = oneRaised(Rig.U, number).control(Rig.HIDELEG, ~(1 << number));
            comes(number + " not in HIDELEG", rig, number, -1);
            rig = allRaised(Rig.U).control(own ? Rig.IE : Rig.HIE, 1 << number);
            comes(number + " alone enabled", rig, number, -1);
        }
        comes("none raised", oneRaised(Rig.U, -1), -1, -1);
        comes("all raised, none enabled", allRaised(Rig.U), -1, -1);
        Rig rig = Rig.in(Rig.S).call(0, 3, 0).control(Rig.IE, 0x20).words(AT, Asm.add(5, 0, 1)).place(AT, Rig.U).run(1);
        due("before the ALARM", rig.count(6), 0);
        rig.run(1);
        due("TIME 2, ALARM 3", rig.count(6), 0);
        rig = Rig.in(Rig.S).call(0, 1, 0).control(Rig.IE, 0x20).words(AT, Asm.add(5, 0, 1)).place(AT, Rig.U);
        comes("TIME 1, ALARM 1", rig, 5, -1);
    }

    private void whenForS() {
        says("due in U, VU, VS, and in S with IE of STATUS;");
        for (int number : ORDER) {
            for (int mode = 0; mode < 4; mode++) {
                for (int ie : new int[] {0, Rig.IE_BIT}) {
                    // IE of VS STATUS must not matter.
                    Rig rig = oneRaised(mode, number).control(Rig.STATUS, ie).control(Rig.VSTATUS, Rig.IE_BIT - ie);
                    comes(number + " in " + mode + ", IE " + ie, rig, mode == Rig.S && ie == 0 ? -1 : number, -1);
                }
            }
        }
        Rig rig = oneRaised(Rig.S, 9).control(Rig.STATUS, ~Rig.IE_BIT);
        comes("all of STATUS but IE", rig, -1, -1);
        rig = Rig.in(Rig.S).control(Rig.IE, 0x200).line(true).control(Rig.STATUS, Rig.PIE);
        rig.words(AT, Asm.SRET).words(0, Asm.NOP).run(2);
        due("behind an sret that sets IE", rig.told(Rig.CAUSE), Rig.INTERRUPT | 9);
        rig = Rig.in(Rig.U).control(Rig.IE, 0x200).line(true).words(Rig.TVEC_AT, Asm.NOP, Asm.NOP).run(3);
        due("a trap to S clears IE", rig.count(6), 1);
    }

    private void order() {
        says("the first in this order: 9, 1, 5, 10, 2, 6.");
        for (int mask = 1; mask < 64; mask++) {
            int enabled = 0;
            int first = -1;
            for (int i = ORDER.length - 1; i >= 0; i--) {
                if ((mask >> i & 1) != 0) {
                    enabled |= 1 << ORDER[i];
                    first = ORDER[i];
                }
            }
            comes("enabled " + enabled, allRaised(Rig.U).control(Rig.IE, enabled).control(Rig.HIE, enabled), first, -1);
        }
    }

    private static Rig passed(int mode, int number) {
        return oneRaised(mode, number).control(Rig.HIDELEG, -1);
    }

    private void forVs() {
        says("Otherwise for VS: HVIP and HIE and HIDELEG;");
        for (int number : new int[] {10, 2, 6}) {
            comes(number + " passed", passed(Rig.VU, number), -1, number - 1);
            comes(number + " not raised", passed(Rig.VU, number).control(Rig.HVIP, 0), -1, -1);
            comes(number + " not enabled", passed(Rig.VU, number).control(Rig.HIE, ~(1 << number)), -1, -1);
            comes(number + " not passed", passed(Rig.VU, number).control(Rig.HIDELEG, ~(1 << number)), number, -1);
            for (int own : new int[] {9, 1, 5}) {
                Rig rig = oneRaised(Rig.VU, own).control(Rig.HIDELEG, -1).control(Rig.HVIP, 1 << number);
                comes("S has " + own + " before it", rig, own, -1);
                rig = oneRaised(Rig.VU, own).control(Rig.HIDELEG, -1).control(Rig.HVIP, 1 << number).control(Rig.IE, 0);
                comes("S has not enabled " + own, rig, -1, number - 1);
            }
            for (int other : new int[] {10, 2, 6}) {
                if (other != number) {
                    Rig rig = passed(Rig.VU, number).control(Rig.HVIP, 1 << number | 1 << other)
                        .control(Rig.HIDELEG, 1 << number);
                    comes(other + " is for S before " + number, rig, other, -1);
                }
            }
        }
    }

    private void whenForVs() {
        says("due in VU, and in VS with IE of VS STATUS:");
        for (int number : new int[] {10, 2, 6}) {
            for (int mode = 0; mode < 4; mode++) {
                for (int ie : new int[] {0, Rig.IE_BIT}) {
                    // IE of STATUS must not matter.
                    Rig rig = passed(mode, number).control(Rig.VSTATUS, ie).control(Rig.STATUS, Rig.IE_BIT - ie);
                    boolean due = mode == Rig.VU || mode == Rig.VS && ie != 0;
                    comes(number + " in " + mode + ", IE " + ie, rig, -1, due ? number - 1 : -1);
                }
            }
        }
        Rig rig = passed(Rig.VS, 10).control(Rig.VSTATUS, ~Rig.IE_BIT);
        comes("all of VS STATUS but IE", rig, -1, -1);
        rig = passed(Rig.VU, 10).words(Rig.VTVEC_AT, Asm.NOP, Asm.NOP).run(3);
        due("a trap to VS clears its IE", rig.count(6), 1);
    }

    private void orderForVs() {
        says("the first of 10, 2, 6; its number for VS is one less.");
        int[] order = {10, 2, 6};
        for (int mask = 1; mask < 8; mask++) {
            int raised = 0;
            int first = -1;
            for (int i = order.length - 1; i >= 0; i--) {
                if ((mask >> i & 1) != 0) {
                    raised |= 1 << order[i];
                    first = order[i];
                }
            }
            Rig rig = oneRaised(Rig.VU, -1).control(Rig.HIDELEG, -1).control(Rig.HVIP, raised);
            comes("raised " + raised, rig, -1, first - 1);
        }
    }

    /** An interrupt for VS leaves nothing to the next one, which is for S; nor does an exception. */
    private void oneAfterAnother() {
        Rig rig = passed(Rig.VU, 10).control(Rig.IE, 0x200).control(Rig.HEDELEG, 4).run(1);
        due("the first is for VS", rig.told(Rig.VCAUSE), Rig.INTERRUPT | 9);
        rig.line(true).run(1);
        due("the second is for S", rig.told(Rig.CAUSE), Rig.INTERRUPT | 9);
        due("its mode", rig.mode(), Rig.S);
        due("traps to VS", rig.count(5), 1);
        rig.line(false).place(AT, Rig.VU).run(1);
        due("the third is for VS", rig.count(5), 2);
        rig.control(Rig.HVIP, 0).place(AT, Rig.VU).step(0);
        due("an exception for VS", rig.told(Rig.VCAUSE), ILLEGAL);
        rig.line(true).place(AT, Rig.VU).run(1);
        due("the last is for S", rig.count(4), 2);
        due("four interrupts", rig.count(6), 4);
    }

    /** VS raises its own by IP, and clears it. */
    private void raisedByItself() {
        Rig rig = Rig.in(Rig.VS).control(Rig.HIDELEG, -1).register(6, 2).control(Rig.VSTATUS, Rig.IE_BIT);
        rig.words(AT, Asm.control(1, 0, Rig.IE, 6), Asm.control(1, 0, Rig.IP, 6), Asm.NOP);
        rig.words(Rig.VTVEC_AT, Asm.control(2, 7, Rig.CAUSE, 0), Asm.control(3, 0, Rig.IP, 6), Asm.SRET).run(3);
        due("VS raises its own", rig.told(Rig.VCAUSE), Rig.INTERRUPT | 1);
        due("its EPC", rig.told(Rig.VEPC), AT + 8);
        rig.run(4);
        due("CAUSE seen in VS", rig.x(7), Rig.INTERRUPT | 1);
        due("back", rig.pc(), AT + 12);
        due("back in VS", rig.mode(), Rig.VS);
        due("no trap to S", rig.count(4), 0);
        due("one interrupt", rig.count(6), 1);
    }
}
