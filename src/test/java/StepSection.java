/** The first terms, what a step is, and promise 12, run. */
final class StepSection extends Section {
    private static final int[] MODES = {Rig.U, Rig.S, Rig.VU, Rig.VS};

    StepSection(Checks checks) {
        super(checks);
    }

    @Override
    void run() {
        numbers();
        memory();
        frames();
        registers();
        modes();
        time();
        interruptedSteps();
        fetches();
        exceptions();
        goingOn();
        howMany();
        untilOff();
        badRuns();
    }

    private void numbers() {
        says("Numbers have 32 bits, two's complement;");
        due("the most and 1", Rig.in(Rig.S).register(6, MOST).step(Asm.add(5, 6, 1)).x(5), LEAST);
        due("the least less 1", Rig.in(Rig.S).register(6, LEAST).step(Asm.add(5, 6, -1)).x(5), MOST);
        due("all bits and 1", Rig.in(Rig.S).register(6, -1).step(Asm.add(5, 6, 1)).x(5), 0);
        says("U: as without sign.");
        Rig rig = Rig.in(Rig.S).register(6, LEAST).register(7, MOST);
        due("the least is less", rig.step(Asm.register(2, 0, 5, 6, 7)).x(5), 1);
        due("but not U", rig.step(Asm.register(3, 0, 5, 6, 7)).x(5), 0);
    }

    private void memory() {
        says("MEMORY: bytes 0 .. 262,143, four in a WORD, the lowest first;");
        Rig rig = Rig.in(Rig.S).words(0, 0x44332211).words(262140, 0x88776655);
        for (int i = 0; i < 4; i++) {
            due("byte " + i, rig.register(6, i).step(Asm.load(4, 5, 6, 0)).x(5), 0x11 * (i + 1));
            due("byte " + (262140 + i), rig.register(6, 262140 + i).step(Asm.load(4, 5, 6, 0)).x(5), 0x11 * (i + 5));
        }
        rig.register(6, 262143).register(7, 0xaa).step(Asm.store(0, 7, 6, 0)).step(Asm.store(0, 7, 0, 0));
        due("the last byte stored", rig.word(262140), 0xaa776655);
        due("the first byte stored", rig.word(0), 0x443322aa);
        untrapped("bytes of memory", rig);
        for (int address : new int[] {262144, -1}) {
            rig = Rig.in(Rig.S).register(6, address).step(Asm.load(4, 5, 6, 0));
            trapped("no byte of memory", rig, 5, address);
        }
    }

    private void frames() {
        says("FRAMES of 4,096 bytes.");
        HyperHost host = new HyperHost();
        int empty = host.sum(0, 1);
        host.poke(4096, 1, 1, 1, 1, 1);
        due("what is behind the first frame", host.sum(0, 1), empty);
        host.poke(4076, 0, 0, 0, 0, 1);
        due("the last word of the first frame", host.sum(0, 1), empty + 1);
    }

    private void registers() {
        says("Registers x0 (always 0) to x31, the PC.");
        for (int n = 0; n < 32; n++) {
            Rig rig = Rig.in(Rig.S).step(Asm.add(n, 0, 7)).step(Asm.add(n == 5 ? 6 : 5, n, 1));
            due("x" + n, rig.x(n), n == 0 ? 0 : 7);
            due("of x" + n, rig.x(n == 5 ? 6 : 5), n == 0 ? 1 : 8);
            for (int other = 7; other < 32; other++) {
                if (other != n) {
                    due("x" + other + " stays", rig.x(other), 0);
                }
            }
        }
    }

    private void modes() {
        says("MODES: U, S, and virtual ones VU, VS.");
        int[] causes = {ILLEGAL, Rig.NO_TRAP, VIRTUAL, Rig.NO_TRAP};
        for (int mode : MODES) {
            outcome("wfi in " + mode, Rig.in(mode), Asm.WFI, causes[mode]);
        }
    }

    private void time() {
        says("All happens in STEPS; TIME is how many were done (within a step: before it).");
        Rig rig = Rig.in(Rig.S);
        int read = Asm.control(2, 5, Rig.TIME, 0);
        due("TIME within the first step", rig.register(5, 9).step(read).x(5), 0);
        due("TIME behind it", rig.count(2), 1);
        due("TIME within the second", rig.step(read).x(5), 1);
        due("TIME's upper bits", rig.step(Asm.control(2, 5, Rig.TIME_UPPER, 0)).x(5), 0);
        due("a trap is a step", rig.step(0).count(2), 4);
        rig.control(Rig.IE, 2).control(Rig.IP, 2).place(Rig.AT, Rig.U).run(1);
        due("an interrupt is a step", rig.count(2), 5);
        due("no call but run is one", rig.place(64, Rig.S).register(5, 1).count(2), 5);
        due("control tells it, too", rig.told(Rig.TIME), 5);
    }

    private void interruptedSteps() {
        says("A STEP: if an interrupt is due, it is a trap;");
        Rig rig = Rig.in(Rig.U).control(Rig.IE, 2).control(Rig.IP, 2).step(Asm.add(5, 0, 1));
        trapped("an interrupt", rig, Rig.INTERRUPT | 1, 0);
        due("nothing is done", rig.x(5), 0);
        due("EPC", rig.told(Rig.EPC), Rig.AT);
        due("TIME", rig.count(2), 1);
        rig = Rig.in(Rig.U).control(Rig.IE, 2).control(Rig.IP, 2).place(-4, Rig.U).run(1);
        trapped("an interrupt where nothing can be fetched", rig, Rig.INTERRUPT | 1, 0);
        rig = Rig.in(Rig.S).control(Rig.STATUS, Rig.IE_BIT).control(Rig.IE, 2).register(6, 2);
        rig.words(Rig.AT, Asm.control(1, 0, Rig.IP, 6), Asm.add(5, 0, 1)).run(1);
        untrapped("the step that makes it due", rig);
        due("the next step", rig.run(1).told(Rig.CAUSE), Rig.INTERRUPT | 1);
        due("its EPC", rig.told(Rig.EPC), Rig.AT + 4);
    }

    private void fetches() {
        says("else the word at the PC is fetched, and done;");
        for (int mode : MODES) {
            for (int pc : new int[] {0, 4, Rig.AT, 262140}) {
                Rig rig = Rig.in(mode).words(pc, Asm.add(5, 0, 3)).place(pc, mode).run(1);
                due("at " + pc + " in " + mode, rig.x(5), 3);
                due("PC", rig.pc(), pc + 4);
            }
            Rig rig = Rig.in(mode).place(262144, mode).run(1);
            trapped("behind memory in " + mode, rig, 1, 262144);
        }
        Rig rig = Rig.in(Rig.S).register(6, Rig.AT + 4).register(7, Asm.add(5, 0, 9));
        rig.words(Rig.AT, Asm.store(2, 7, 6, 0), Asm.add(5, 0, 1)).run(2);
        due("what was stored just before", rig.x(5), 9);
    }

    private void exceptions() {
        says("an exception is a trap instead, and what it would have done is not done.");
        Rig rig = Rig.in(Rig.S).register(5, 77).register(6, 262144).step(Asm.load(2, 5, 6, 0));
        due("a load", rig.x(5), 77);
        rig = Rig.in(Rig.S).register(5, 77).step(Asm.jump(5, 2));
        due("a jump", rig.x(5), 77);
        rig = Rig.in(Rig.S).register(5, 77).step(Asm.store(2, 5, 0, 2));
        due("a store", rig.word(0), 0);
        rig = Rig.in(Rig.U).control(Rig.SCRATCH, 5).register(5, 77).step(Asm.control(1, 5, Rig.SCRATCH, 5));
        due("a control register", rig.told(Rig.SCRATCH), 5);
        due("its x[d]", rig.x(5), 77);
        rig = Rig.in(Rig.VU).control(Rig.EPC, 64).control(Rig.VEPC, 68).control(Rig.HSTATUS, Rig.SPV).step(Asm.SRET);
        trapped("a way back", rig, VIRTUAL, Asm.SRET);
        rig = Rig.in(Rig.U).register(17, 8).register(10, 65).step(Asm.ECALL);
        due("a call that is not of S: off", rig.count(8), 0);
        due("its x10", rig.x(10), 65);
        rig = Rig.in(Rig.U).register(17, 1).register(10, 65).step(Asm.ECALL);
        due("its console", rig.count(7), 0);
    }

    private void goingOn() {
        says("Otherwise the PC goes on by 4, if nothing else is said.");
        due("by 4", Rig.in(Rig.S).step(Asm.NOP).pc(), Rig.AT + 4);
        due("behind memory's last word", Rig.in(Rig.S).place(262140, Rig.S).step(Asm.NOP).pc(), 262144);
        Rig rig = Tables.lastPage().words(Tables.LAST_WORD, Asm.NOP).run(1);
        untrapped("the last word of all addresses", rig);
        due("behind it", rig.pc(), 0);
        rig = Tables.lastPage().words(Tables.LAST_WORD, Asm.branch(1, 0, 0, 8)).run(1);
        due("a branch that is not taken there", rig.pc(), 0);
    }

    private void howMany() {
        says("So many steps, 0 .. 2,000,");
        HyperHost host = new HyperHost();
        host.poke(0, Asm.add(5, 5, 1), Asm.jump(0, -4), 0, 0, 0);
        due("run(0)", host.run(0), 0);
        due("TIME behind run(0)", host.count(2), 0);
        due("PC behind run(0)", host.count(1), 0);
        due("run(1)", host.run(1), 1);
        due("x5", host.register(5), 1);
        due("run(1999)", host.run(1999), 1999);
        due("TIME", host.count(2), 2000);
        due("run(2000)", host.run(2000), 2000);
        due("TIME", host.count(2), 4000);
        due("x5", host.register(5), 2000);
    }

    private void untilOff() {
        says("or until it is OFF: how many were done.");
        int[] program = {Asm.NOP, Asm.NOP, Asm.ECALL, Asm.add(5, 0, 1), Asm.add(5, 0, 1)};
        for (int steps : new int[] {3, 4, 5, 2000}) {
            Rig rig = Rig.in(Rig.S).register(17, 8).words(Rig.AT, program);
            due("run(" + steps + ")", rig.host().run(steps), 3);
            due("TIME", rig.count(2), 3);
            due("the PC", rig.pc(), Rig.AT + 12);
            due("what is behind", rig.x(5), 0);
            due("run again", rig.host().run(steps), 0);
        }
        Rig rig = Rig.in(Rig.S).register(17, 8).words(Rig.AT, program);
        due("run(2)", rig.host().run(2), 2);
        due("not off yet", rig.count(8), 0);
        due("run(2) again", rig.host().run(2), 1);
    }

    private void badRuns() {
        says("or until it is OFF: how many were done. BAD: another number.");
        HyperHost host = new HyperHost();
        for (int steps : new int[] {-1, 2001, 2002, -2000, 4000, LEAST, MOST, 1 << 16}) {
            due("run(" + steps + ")", host.run(steps), -1);
            due("TIME", host.count(2), 0);
        }
    }
}
