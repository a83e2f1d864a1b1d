/** TRAPS: where they go, and what they leave. */
final class TrapSection extends Section {
    private static final int AT = Rig.AT;
    private static final int[] NUMBERS = {0, 1, 2, 3, 4, 5, 6, 7, 8, 10, 12, 13, 15, 20, 21, 22, 23};
    private static final int WORD = 127;
    private static final int OUTSIDE = -4;
    private static final int ODD = 2;
    private static final int READ_HGATP = Asm.control(2, 5, Rig.HGATP, 0);

    TrapSection(Checks checks) {
        super(checks);
    }

    @Override
    void run() {
        delegation();
        causes();
        enabled();
        previous();
        fromVirtual();
        secondStageAddress();
        entryPlaces();
        guestAddresses();
        vectors();
        interruptVectors();
        toVs();
        whatStays();
        tvals();
        downAndUp();
    }

    /** Whether an exception of a number can come from a mode. */
    private static boolean comesFrom(int mode, int number) {
        switch (number) {
            case 8: return mode == Rig.U || mode == Rig.VU;
            case 10: return mode == Rig.VS;
            case 20: case 21: case 22: case 23: return Rig.isVirtual(mode);
            default: return true;
        }
    }

    /** A machine in a mode whose next step is an exception of a number. */
    private static Rig before(int mode, int number) {
        switch (number) {
            case 0: return Rig.in(mode).register(6, ODD).words(AT, Asm.jumpTo(5, 6, 0));
            case 1: return Rig.in(mode).place(OUTSIDE, mode);
            case 2: return Rig.in(mode).words(AT, WORD);
            case 3: return Rig.in(mode).words(AT, Asm.EBREAK);
            case 4: return Rig.in(mode).register(6, ODD).words(AT, Asm.load(2, 5, 6, 0));
            case 5: return Rig.in(mode).register(6, OUTSIDE).words(AT, Asm.load(2, 5, 6, 0));
            case 6: return Rig.in(mode).register(6, ODD).words(AT, Asm.store(2, 5, 6, 0));
            case 7: return Rig.in(mode).register(6, OUTSIDE).words(AT, Asm.store(2, 5, 6, 0));
            case 8: case 10: return Rig.in(mode).words(AT, Asm.ECALL);
            case 22: return Rig.in(mode).words(AT, READ_HGATP);
            default: return beforeFault(mode, number);
        }
    }

    private static Rig beforeFault(int mode, int number) {
        int none = Tables.leaf(0);
        boolean second = number >= 20;
        Rig guest = Tables.guest(mode, second ? 0 : none, second ? none : 0);
        Rig rig = Rig.isVirtual(mode) ? guest : Tables.oneStage(mode, none);
        switch (number) {
            case 12: case 20: return rig.place(Tables.PAGE, mode);
            case 13: case 21: return rig.words(AT, Asm.load(2, 5, 6, 0));
            default: return rig.words(AT, Asm.store(2, 5, 6, 0));
        }
    }

    private static int pcOf(int number) {
        return number == 1 ? OUTSIDE : number == 12 || number == 20 ? Tables.PAGE : AT;
    }

    private static int tvalOf(int number) {
        switch (number) {
            case 0: case 4: case 6: return ODD;
            case 1: case 5: case 7: return OUTSIDE;
            case 2: return WORD;
            case 3: return AT;
            case 12: case 13: case 15: case 20: case 21: case 23: return Tables.PAGE;
            case 22: return READ_HGATP;
            default: return 0;
        }
    }

    private static boolean isPassed(int number) {
        return number <= 8 || number == 12 || number == 13 || number == 15;
    }

    private void delegation() {
        says("TRAPS. An exception in VU or VS whose bit in HEDELEG is set goes to VS, all others to S.");
        for (int number : NUMBERS) {
            for (int mode = 0; mode < 4; mode++) {
                if (comesFrom(mode, number)) {
                    goes(mode, number, 0, false);
                    goes(mode, number, ~(1 << number), false);
                    goes(mode, number, 1 << number, Rig.isVirtual(mode) && isPassed(number));
                    goes(mode, number, -1, Rig.isVirtual(mode) && isPassed(number));
                }
            }
        }
    }

    private void goes(int mode, int number, int hedeleg, boolean down) {
        Rig rig = before(mode, number).control(Rig.HEDELEG, hedeleg).run(1);
        String what = number + " from " + mode + " with HEDELEG " + hedeleg;
        due(what + ": traps to VS", rig.count(5), down ? 1 : 0);
        due(what + ": traps to S", rig.count(4), down ? 0 : 1);
        due(what + ": interrupts", rig.count(6), 0);
        due(what + ": VS CAUSE", rig.told(Rig.VCAUSE), down ? number : Rig.NO_TRAP);
        due(what + ": CAUSE", rig.told(Rig.CAUSE), down ? Rig.NO_TRAP : number);
        due(what + ": mode", rig.mode(), down ? Rig.VS : Rig.S);
    }

    private static Rig interrupted(int mode) {
        return Rig.in(mode).control(Rig.IE, 2).control(Rig.IP, 2);
    }

    private void causes() {
        says("To S: EPC is the PC, CAUSE its number (of an interrupt bit 31, too);");
        for (int number : NUMBERS) {
            for (int mode = 0; mode < 4; mode++) {
                if (comesFrom(mode, number)) {
                    Rig rig = before(mode, number).control(Rig.VEPC, 64).run(1);
                    due(number + " from " + mode + ": EPC", rig.told(Rig.EPC), pcOf(number));
                    due(number + " from " + mode + ": CAUSE", rig.told(Rig.CAUSE), number);
                    due(number + " from " + mode + ": VS EPC stays", rig.told(Rig.VEPC), 64);
                }
            }
        }
        Rig rig = interrupted(Rig.U).run(1);
        due("an interrupt's CAUSE", rig.told(Rig.CAUSE), 0x80000001);
        due("an interrupt's EPC", rig.told(Rig.EPC), AT);
    }

    private void enabled() {
        says("PIE becomes IE, IE 0;");
        for (int mode = 0; mode < 4; mode++) {
            for (int before : new int[] {0, Rig.IE_BIT, Rig.PIE, Rig.IE_BIT | Rig.PIE}) {
                for (int other : new int[] {0, Rig.SUM | Rig.MXR}) {
                    Rig rig = before(mode, 2).control(Rig.STATUS, before | other).control(Rig.VSTATUS, Rig.IE_BIT)
                        .run(1);
                    int want = ((before & Rig.IE_BIT) != 0 ? Rig.PIE : 0) | other;
                    due("STATUS " + before + " from " + mode, rig.told(Rig.STATUS) & ~Rig.PP, want);
                    due("VS STATUS stays", rig.told(Rig.VSTATUS), Rig.IE_BIT);
                }
            }
        }
        Rig rig = interrupted(Rig.S).control(Rig.STATUS, Rig.IE_BIT).run(1);
        due("of an interrupt", rig.told(Rig.STATUS), Rig.PIE | Rig.PP);
    }

    private void previous() {
        says("PP 1 if it came from S or VS, else 0;");
        for (int mode = 0; mode < 4; mode++) {
            for (int before : new int[] {0, Rig.PP}) {
                int want = mode == Rig.S || mode == Rig.VS ? Rig.PP : 0;
                due("PP from " + mode, before(mode, 2).control(Rig.STATUS, before).run(1).told(Rig.STATUS), want);
                Rig rig = interrupted(mode).control(Rig.STATUS, before | Rig.IE_BIT).run(1);
                due("PP of an interrupt from " + mode, rig.told(Rig.STATUS) & Rig.PP, want);
            }
        }
    }

    private void fromVirtual() {
        says("SPV 1 if from VU or VS, else 0,");
        for (int mode = 0; mode < 4; mode++) {
            for (int before : new int[] {0, -1}) {
                int want = Rig.isVirtual(mode) ? Rig.SPV : 0;
                due("SPV from " + mode, before(mode, 2).control(Rig.HSTATUS, before).run(1).hstatus() & Rig.SPV, want);
                Rig rig = interrupted(mode).control(Rig.STATUS, Rig.IE_BIT).control(Rig.HSTATUS, before).run(1);
                due("SPV of an interrupt from " + mode, rig.hstatus() & Rig.SPV, want);
            }
        }
        says("and if so SPVP is 1 for VS, else 0;");
        for (int before : new int[] {0, Rig.SPVP}) {
            due("from VU", before(Rig.VU, 2).control(Rig.HSTATUS, before).run(1).hstatus() & Rig.SPVP, 0);
            due("from VS", before(Rig.VS, 2).control(Rig.HSTATUS, before).run(1).hstatus() & Rig.SPVP, Rig.SPVP);
            due("it stays from U", before(Rig.U, 2).control(Rig.HSTATUS, before).run(1).hstatus() & Rig.SPVP, before);
            due("it stays from S", before(Rig.S, 2).control(Rig.HSTATUS, before).run(1).hstatus() & Rig.SPVP, before);
        }
        int others = Rig.HU | Rig.VTVM | Rig.VTW | Rig.VTSR;
        int[] told = {0, 0, Rig.SPV, Rig.SPV | Rig.SPVP};
        for (int mode = 0; mode < 4; mode++) {
            due("all of it from " + mode, before(mode, 2).run(1).hstatus(), told[mode]);
            Rig rig = before(mode, 2).control(Rig.HSTATUS, others).run(1);
            due("other bits stay from " + mode, rig.hstatus(), others | told[mode]);
        }
    }

    private void secondStageAddress() {
        says("HTVAL is the address of the second stage by 4 (bits 33 .. 2) for 20, 21, 23, else 0;");
        for (int number : NUMBERS) {
            for (int mode = 0; mode < 4; mode++) {
                if (comesFrom(mode, number)) {
                    Rig rig = before(mode, number).control(Rig.HTVAL, -1).run(1);
                    boolean told = number == 20 || number == 21 || number == 23;
                    due("HTVAL of " + number + " from " + mode, rig.told(Rig.HTVAL), told ? Tables.PAGE / 4 : 0);
                }
            }
        }
        due("HTVAL of an interrupt", interrupted(Rig.U).control(Rig.HTVAL, -1).run(1).told(Rig.HTVAL), 0);
        Rig rig = Tables.guest(Rig.VS, -1 << 10 | Tables.ALL, Tables.leaf(Tables.ALL)).register(6, Tables.PAGE + 4092);
        rig.words(AT, Asm.load(2, 5, 6, 0)).run(1);
        due("the last address of 34 bits", rig.told(Rig.HTVAL), -1);
        rig = Tables.guest(Rig.VS, 0, Tables.leaf(0)).register(6, Tables.PAGE + 7).words(AT, Asm.load(0, 5, 6, 0))
            .run(1);
        due("a byte's address", rig.told(Rig.HTVAL), (Tables.PAGE + 4) / 4);
        due("its TVAL", rig.told(Rig.TVAL), Tables.PAGE + 7);
    }

    private void entryPlaces() {
        says("HTINST is 0x2000, if that was an entry's place, else 0;");
        for (int number : NUMBERS) {
            for (int mode = 0; mode < 4; mode++) {
                if (comesFrom(mode, number)) {
                    Rig rig = before(mode, number).control(Rig.HTINST, -1).run(1);
                    due("HTINST of " + number + " from " + mode, rig.told(Rig.HTINST), 0);
                }
            }
        }
        due("HTINST of an interrupt", interrupted(Rig.U).control(Rig.HTINST, -1).run(1).told(Rig.HTINST), 0);
        int leaf = Tables.leaf(Tables.ALL | Tables.USER);
        Rig rig = Tables.guest(Rig.VS, Tables.middle(Tables.ALL), leaf).control(Rig.VATP, Tables.ON | 40).run(1);
        due("HTINST of a first entry's place", rig.told(Rig.HTINST), 0x2000);
        due("its HTVAL", rig.told(Rig.HTVAL), 40 * 1024);
        rig = Tables.guest(Rig.VS, Tables.middle(Tables.ALL), leaf)
            .words(Tables.place(Tables.H_TABLE, Tables.VS_TABLE), 0).run(1);
        due("HTINST of a second entry's place", rig.told(Rig.HTINST), 0x2000);
        due("its HTVAL", rig.told(Rig.HTVAL), Tables.place(Tables.VS_TABLE, 1) / 4);
        // A later trap has nothing of it left.
        rig.words(Rig.TVEC_AT, 0).run(1);
        due("HTINST of the next", rig.told(Rig.HTINST), 0);
        due("HTVAL of the next", rig.told(Rig.HTVAL), 0);
    }

    private void guestAddresses() {
        says("GVA 1, if TVAL is an address (of 0, 1, 3 to 7, 12, 13, 15, 20, 21, 23) of VU or VS (of f 4, too), "
            + "else 0.");
        for (int number : NUMBERS) {
            for (int mode = 0; mode < 4; mode++) {
                for (int before : new int[] {0, Rig.GVA}) {
                    if (comesFrom(mode, number)) {
                        Rig rig = before(mode, number).control(Rig.HSTATUS, before).run(1);
                        boolean address = number != 2 && number != 8 && number != 10 && number != 22;
                        int want = address && Rig.isVirtual(mode) ? Rig.GVA : 0;
                        due("GVA of " + number + " from " + mode, rig.hstatus() & Rig.GVA, want);
                    }
                }
            }
        }
        for (int mode = 0; mode < 4; mode++) {
            Rig rig = interrupted(mode).control(Rig.STATUS, Rig.IE_BIT).control(Rig.HSTATUS, Rig.GVA).run(1);
            due("GVA of an interrupt from " + mode, rig.hstatus() & Rig.GVA, 0);
        }
        for (int address : new int[] {ODD, OUTSIDE}) {
            for (int word : new int[] {Asm.guestLoad(52, 0, 5, 6), Asm.guestLoad(52, 3, 5, 6),
                Asm.guestStore(53, 5, 6)}) {
                for (int mode : new int[] {Rig.U, Rig.S}) {
                    Rig rig = Rig.in(mode).control(Rig.HSTATUS, Rig.HU).register(6, address).step(word);
                    due("GVA of f 4 from " + mode, rig.hstatus() & Rig.GVA, Rig.GVA);
                    // The next load is not of f 4.
                    rig.words(Rig.TVEC_AT, Asm.load(2, 5, 6, 0)).run(1);
                    due("GVA of the next", rig.hstatus() & Rig.GVA, 0);
                }
            }
        }
        Rig rig = Rig.in(Rig.S).step(Asm.guestLoad(52, 2, 5, 6));
        due("GVA of an illegal f 4", rig.hstatus() & Rig.GVA, 0);
        rig = Rig.in(Rig.VS).register(6, ODD).step(Asm.guestLoad(52, 0, 5, 6));
        due("GVA of a virtual exception", rig.hstatus() & Rig.GVA, 0);
    }

    private void vectors() {
        says("The mode is S, the PC TVEC without its lowest two bits;");
        for (int mode = 0; mode < 4; mode++) {
            for (int low = 0; low < 4; low++) {
                Rig rig = before(mode, 2).control(Rig.TVEC, 0x1230 + low).run(1);
                due("PC of TVEC with " + low, rig.pc(), 0x1230);
                due("mode", rig.mode(), Rig.S);
            }
        }
        due("the last place", before(Rig.U, 2).control(Rig.TVEC, -1).run(1).pc(), -4);
        due("0", before(Rig.U, 2).control(Rig.TVEC, 0).run(1).pc(), 0);
    }

    private void interruptVectors() {
        says("of an interrupt, if bit 0 of TVEC is set, 4 times its number more.");
        for (int number : new int[] {1, 9, 2, 6, 10}) {
            for (int bit = 0; bit < 2; bit++) {
                Rig rig = Rig.in(Rig.U).control(Rig.IE, -1).control(Rig.HIE, -1).control(Rig.TVEC, 0x1230 | bit);
                rig.control(Rig.IP, number == 1 ? 2 : 0).line(number == 9).control(Rig.HVIP, 1 << number).run(1);
                due("CAUSE", rig.told(Rig.CAUSE), Rig.INTERRUPT | number);
                due("PC of " + number + ", bit 0 of TVEC " + bit, rig.pc(), 0x1230 + bit * 4 * number);
            }
        }
        Rig rig = Rig.in(Rig.S).call(0, 0, 0).control(Rig.IE, 0x20).control(Rig.TVEC, 0x1231).place(AT, Rig.U).run(1);
        due("PC of 5", rig.pc(), 0x1230 + 20);
        rig = Rig.in(Rig.U).control(Rig.IE, 0x200).line(true).control(Rig.TVEC, -3).run(1);
        due("round", rig.pc(), -4 + 36);
    }

    private void toVs() {
        says("To VS: so by VS ones (EPC, CAUSE, TVAL, IE, PIE, PP, TVEC);");
        for (int mode : new int[] {Rig.VU, Rig.VS}) {
            for (int number : NUMBERS) {
                if (comesFrom(mode, number) && isPassed(number)) {
                    Rig rig = down(mode, number).run(1);
                    String what = number + " from " + mode;
                    due(what + ": VS EPC", rig.told(Rig.VEPC), pcOf(number));
                    due(what + ": VS CAUSE", rig.told(Rig.VCAUSE), number);
                    due(what + ": VS TVAL", rig.told(Rig.VTVAL), tvalOf(number));
                    due(what + ": PC", rig.pc(), Rig.VTVEC_AT);
                    due(what + ": EPC stays", rig.told(Rig.EPC), 64);
                    due(what + ": CAUSE stays", rig.told(Rig.CAUSE), Rig.NO_TRAP);
                    due(what + ": TVAL stays", rig.told(Rig.TVAL), 5);
                }
            }
            int others = Rig.SUM | Rig.MXR;
            for (int before : new int[] {0, Rig.IE_BIT, Rig.PIE, Rig.IE_BIT | Rig.PIE, Rig.PP, Rig.PP | others}) {
                Rig rig = down(mode, 2).control(Rig.VSTATUS, before).control(Rig.STATUS, Rig.IE_BIT).run(1);
                int pie = (before & Rig.IE_BIT) != 0 ? Rig.PIE : 0;
                int want = pie | (mode == Rig.VS ? Rig.PP : 0) | before & others;
                due("VS STATUS " + before + " from " + mode, rig.told(Rig.VSTATUS), want);
                due("STATUS stays", rig.told(Rig.STATUS), Rig.IE_BIT);
            }
            for (int low = 0; low < 4; low++) {
                due("PC of VS TVEC with " + low, down(mode, 2).control(Rig.VTVEC, 0x1230 + low).run(1).pc(), 0x1230);
                Rig rig = Rig.in(mode).control(Rig.HIDELEG, -1).control(Rig.HIE, -1).control(Rig.HVIP, 0x400);
                rig.control(Rig.VSTATUS, Rig.IE_BIT).control(Rig.VTVEC, 0x1230 + low).run(1);
                due("PC of an interrupt, VS TVEC with " + low, rig.pc(), 0x1230 + low % 2 * 36);
            }
            Rig rig = Rig.in(mode).control(Rig.HIDELEG, -1).control(Rig.HIE, -1).control(Rig.HVIP, 0x400);
            due("round", rig.control(Rig.VSTATUS, Rig.IE_BIT).control(Rig.VTVEC, -3).run(1).pc(), -4 + 36);
        }
    }

    private static Rig down(int mode, int number) {
        Rig rig = before(mode, number).control(Rig.HEDELEG, -1).control(Rig.EPC, 64).control(Rig.TVAL, 5);
        return rig.control(Rig.VTVAL, 77);
    }

    private void whatStays() {
        says("HSTATUS, HTVAL, HTINST stay. The mode is VS.");
        for (int mode : new int[] {Rig.VU, Rig.VS}) {
            for (int number : new int[] {2, 3, 13}) {
                for (int hstatus : new int[] {0, 0x7003c0, Rig.SPV, Rig.SPVP, Rig.GVA}) {
                    Rig rig = down(mode, number).control(Rig.HSTATUS, hstatus).control(Rig.HTVAL, 9)
                        .control(Rig.HTINST, 8).run(1);
                    due("HSTATUS", rig.hstatus(), hstatus);
                    due("HTVAL", rig.told(Rig.HTVAL), 9);
                    due("HTINST", rig.told(Rig.HTINST), 8);
                    due("mode", rig.mode(), Rig.VS);
                }
            }
            Rig rig = Rig.in(mode).control(Rig.HIDELEG, -1).control(Rig.HIE, -1).control(Rig.HVIP, 4)
                .control(Rig.HSTATUS, -1);
            rig.control(Rig.VSTATUS, Rig.IE_BIT).control(Rig.HTVAL, 9).control(Rig.HTINST, 8).run(1);
            due("HSTATUS of an interrupt", rig.hstatus(), 0x7003c0);
            due("HTVAL of an interrupt", rig.told(Rig.HTVAL), 9);
            due("HTINST of an interrupt", rig.told(Rig.HTINST), 8);
            due("mode of an interrupt", rig.mode(), Rig.VS);
        }
    }

    private void tval(int... numbers) {
        for (int number : numbers) {
            for (int mode = 0; mode < 4; mode++) {
                if (comesFrom(mode, number)) {
                    Rig rig = before(mode, number).control(Rig.TVAL, 77).control(Rig.VTVAL, 78).run(1);
                    due("TVAL of " + number + " from " + mode, rig.told(Rig.TVAL), tvalOf(number));
                    due("VS TVAL of " + number + " stays", rig.told(Rig.VTVAL), 78);
                }
            }
        }
    }

    private void tvals() {
        says("TVAL: of 0 the place to go on at,");
        tval(0);
        due("of a branch", Rig.in(Rig.S).step(Asm.branch(0, 0, 0, -2)).told(Rig.TVAL), AT - 2);
        due("of a jump", Rig.in(Rig.S).step(Asm.jump(0, 6)).told(Rig.TVAL), AT + 6);
        says("of 2 and 22 the word,");
        tval(2, 22);
        due("all bits", Rig.in(Rig.S).step(-1).told(Rig.TVAL), -1);
        due("no bits", Rig.in(Rig.S).control(Rig.TVAL, 5).step(0).told(Rig.TVAL), 0);
        says("of 3 the PC,");
        tval(3);
        says("of 1, 4 to 7, 12, 13, 15, 20, 21, 23 the address that was fetched, loaded or stored;");
        tval(1, 4, 5, 6, 7, 12, 13, 15, 20, 21, 23);
        says("else 0.");
        tval(8, 10);
        due("of an interrupt", interrupted(Rig.U).control(Rig.TVAL, 77).run(1).told(Rig.TVAL), 0);
        Rig rig = Rig.in(Rig.VU).control(Rig.HIDELEG, -1).control(Rig.HIE, -1).control(Rig.HVIP, 4)
            .control(Rig.VTVAL, 77).run(1);
        due("of an interrupt of VS", rig.told(Rig.VTVAL), 0);
    }

    /** VU calls its VS, which calls S, and all go back. */
    private void downAndUp() {
        Rig rig = Rig.in(Rig.VU).control(Rig.HEDELEG, 1 << 8).words(AT, Asm.ECALL, Asm.add(5, 5, 1));
        rig.words(Rig.VTVEC_AT, Asm.ECALL, Asm.control(2, 8, Rig.EPC, 0), Asm.add(8, 8, 4),
            Asm.control(1, 0, Rig.EPC, 8), Asm.SRET);
        rig.words(Rig.TVEC_AT, Asm.control(2, 9, Rig.EPC, 0), Asm.add(9, 9, 4), Asm.control(1, 0, Rig.EPC, 9),
            Asm.SRET);
        rig.run(11);
        due("what VU goes on with", rig.x(5), 1);
        due("the mode at last", rig.mode(), Rig.VU);
        due("the PC at last", rig.pc(), AT + 8);
        due("CAUSE", rig.told(Rig.CAUSE), 10);
        due("VS CAUSE", rig.told(Rig.VCAUSE), 8);
        due("traps", rig.count(4) * 10 + rig.count(5), 11);
    }
}
