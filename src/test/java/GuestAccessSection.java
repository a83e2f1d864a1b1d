/** SYSTEM, f 4: loads and stores of S and U that go as if from VS or VU. */
final class GuestAccessSection extends Section {
    private static final int AT = Rig.AT;
    private static final int FINE = Rig.NO_TRAP;
    private static final int LOAD = Asm.guestLoad(52, 0, 5, 6);
    private static final int EXECUTE = Asm.guestLoad(52, 3, 5, 6);
    private static final int STORE = Asm.guestStore(53, 7, 6);
    private static final int PLACE = 0x2000;

    GuestAccessSection(Checks checks) {
        super(checks);
    }

    @Override
    void run() {
        inVirtualModes();
        inU();
        loads();
        signs();
        executions();
        stores();
        asIf();
        whoseExceptions();
        numbers();
        otherForms();
    }

    private static Rig rig(int mode, int hstatus) {
        return Rig.in(mode).control(Rig.HSTATUS, hstatus).register(6, PLACE).register(7, Tables.STORED);
    }

    private void inVirtualModes() {
        says("f 4: in VS, VU virtual exception;");
        for (int mode : new int[] {Rig.VU, Rig.VS}) {
            for (int hstatus : new int[] {0, Rig.HU, -1}) {
                for (int word : new int[] {LOAD, EXECUTE, STORE}) {
                    Rig rig = rig(mode, hstatus).words(PLACE, 5);
                    outcome("in " + mode, rig, word, VIRTUAL);
                    due("nothing is loaded", rig.x(5), 0);
                    due("nothing is stored", rig.word(PLACE), 5);
                }
            }
        }
        Rig rig = rig(Rig.VS, 0).register(6, PLACE + 1);
        outcome("before the address is looked at", rig, LOAD, VIRTUAL);
    }

    private void inU() {
        says("in U without HU illegal;");
        for (int word : new int[] {LOAD, EXECUTE, STORE}) {
            outcome("without HU", rig(Rig.U, 0), word, ILLEGAL);
            outcome("all but HU", rig(Rig.U, ~Rig.HU), word, ILLEGAL);
            outcome("with HU", rig(Rig.U, Rig.HU), word, FINE);
            outcome("S without HU", rig(Rig.S, 0), word, FINE);
        }
        outcome("before the address is looked at", rig(Rig.U, 0).register(6, 1), LOAD, ILLEGAL);
    }

    /** For g, b at a place of the word 0xff80017f. */
    private void loaded(int g, int b, int at, int want) {
        Rig rig = rig(Rig.S, 0).words(PLACE, 0xff80017f).register(6, PLACE + at).step(Asm.guestLoad(g, b, 5, 6));
        untrapped("g " + g + ", b " + b, rig);
        due("g " + g + ", b " + b + " at " + at, rig.x(5), want);
        due("PC", rig.pc(), AT + 4);
    }

    private void loads() {
        says("else: g 48, 50, 52 with b 0, 1: x[d] is loaded from x[a]: a byte, two bytes, a word");
        loaded(48, 0, 0, 0x7f);
        loaded(48, 0, 1, 1);
        loaded(50, 0, 0, 0x017f);
        loaded(52, 0, 0, 0xff80017f);
        Rig rig = rig(Rig.S, 0).words(PLACE, 9).step(Asm.guestLoad(52, 0, 6, 6));
        due("into its own x[a]", rig.x(6), 9);
    }

    private void signs() {
        says("(with sign; b 1, not for a word: U);");
        loaded(48, 0, 2, 0xffffff80);
        loaded(48, 1, 2, 0x80);
        loaded(48, 0, 3, -1);
        loaded(48, 1, 3, 0xff);
        loaded(48, 1, 0, 0x7f);
        loaded(50, 0, 2, 0xffffff80);
        loaded(50, 1, 2, 0xff80);
        loaded(50, 1, 0, 0x017f);
        // A word has no b 1: what is U and what is not are the same for it.
        for (int mode = 0; mode < 4; mode++) {
            outcome("b 1 for a word in " + mode, rig(mode, Rig.HU), Asm.guestLoad(52, 1, 5, 6), ILLEGAL);
        }
    }

    private void executions() {
        says("g 50, 52 with b 3: as U, for EXECUTION (two bytes, a word);");
        loaded(50, 3, 2, 0xff80);
        loaded(50, 3, 0, 0x017f);
        loaded(52, 3, 0, 0xff80017f);
        outcome("no byte", rig(Rig.S, 0), Asm.guestLoad(48, 3, 5, 6), ILLEGAL);
        int onlyX = Tables.V | Tables.X | Tables.A;
        Rig rig = guest(Rig.S, Rig.SPVP, Tables.middle(onlyX), Tables.leaf(onlyX | Tables.USER)).step(EXECUTE);
        due("where only X is", rig.x(5), Tables.SEEN);
        rig = guest(Rig.S, Rig.SPVP, Tables.middle(onlyX), Tables.leaf(onlyX | Tables.USER)).step(LOAD);
        trapped("not for execution", rig, 13, Tables.PAGE);
    }

    private void stores() {
        says("g 49, 51, 53 with d 0: x[b]'s byte, two bytes, word is stored at x[a].");
        int[][] rows = {
            {49, 0, 0x11111178}, {49, 1, 0x11117811}, {49, 3, 0x78111111}, {51, 0, 0x11115678}, {51, 2, 0x56781111},
            {53, 0, 0x12345678},
        };
        for (int[] row : rows) {
            Rig rig = rig(Rig.S, 0).words(PLACE - 4, 0x11111111, 0x11111111, 0x11111111).register(6, PLACE + row[1]);
            outcome("g " + row[0], rig, Asm.guestStore(row[0], 7, 6), FINE);
            due("g " + row[0] + " at " + row[1], rig.word(PLACE), row[2]);
            due("before it", rig.word(PLACE - 4), 0x11111111);
            due("behind it", rig.word(PLACE + 4), 0x11111111);
        }
        for (int g : new int[] {49, 51, 53}) {
            for (int d : new int[] {1, 2, 16, 31}) {
                Rig rig = rig(Rig.S, 0);
                outcome("d " + d, rig, Asm.guestStore(g, 7, 6) | d << 7, ILLEGAL);
                due("nothing is stored", rig.word(PLACE), 0);
            }
        }
    }

    /** S or U beside a guest's tables, which are for VS or VU by SPVP. */
    private static Rig guest(int from, int hstatus, int first, int second) {
        int as = (hstatus & Rig.SPVP) != 0 ? Rig.VS : Rig.VU;
        return Tables.guest(as, first, second).control(Rig.HSTATUS, hstatus).place(AT, from);
    }

    private void goes(String what, Rig rig, int word, int cause) {
        rig.step(word);
        if (cause == FINE) {
            untrapped(what, rig);
        } else {
            trapped(what, rig, cause, rig.x(6));
        }
        Tables.Touch touch = word == STORE ? Tables.Touch.STORE : Tables.Touch.LOAD;
        due(what + ": done", touch.reached(rig, Tables.FRAME * 4096), cause == FINE);
    }

    private void asIf() {
        says("These go as if from VS (SPVP 1) or VU (0);");
        int second = Tables.leaf(Tables.ALL | Tables.USER);
        int ofS = Tables.middle(Tables.ALL);
        int ofU = Tables.middle(Tables.ALL | Tables.USER);
        for (int word : new int[] {LOAD, EXECUTE, STORE}) {
            int fault = word == STORE ? 15 : 13;
            for (int mode : new int[] {Rig.U, Rig.S}) {
                goes("VS's as VS", guest(mode, Rig.HU | Rig.SPVP, ofS, second), word, FINE);
                goes("VS's as VU", guest(mode, Rig.HU, ofS, second), word, fault);
                goes("VU's as VU", guest(mode, Rig.HU, ofU, second), word, FINE);
                goes("VU's as VS", guest(mode, Rig.HU | Rig.SPVP, ofU, second), word, fault);
                Rig rig = guest(mode, Rig.HU | Rig.SPVP, ofU, second).control(Rig.VSTATUS, Rig.SUM);
                goes("VU's as VS with SUM of VS", rig, word, FINE);
                rig = guest(mode, Rig.HU | Rig.SPVP, ofU, second).control(Rig.STATUS, Rig.SUM);
                goes("VU's as VS with SUM of S", rig, word, fault);
                rig = guest(mode, Rig.HU | Rig.SPVP | Rig.SPV | Rig.GVA, ofS, second);
                goes("whatever SPV is", rig, word, FINE);
            }
            Rig rig = guest(Rig.S, 0, 0, 0).words(Tables.PAGE, Tables.SEEN);
            rig.step(word);
            untrapped("without tables", rig);
        }
    }

    private void whoseExceptions() {
        says("their exceptions are those of S or U, where they are done,");
        for (int mode : new int[] {Rig.U, Rig.S}) {
            for (int spvp : new int[] {0, Rig.SPVP}) {
                Rig rig = guest(mode, Rig.HU | spvp | Rig.SPV, 0, 0).control(Rig.HEDELEG, -1).register(6, -4)
                    .step(LOAD);
                trapped("from " + mode, rig, 5, -4);
                due("none goes to VS", rig.count(5), 0);
                due("PP", rig.told(Rig.STATUS) & Rig.PP, mode == Rig.S ? Rig.PP : 0);
                due("SPV", rig.hstatus() & Rig.SPV, 0);
                due("SPVP stays", rig.hstatus() & Rig.SPVP, spvp);
                due("GVA", rig.hstatus() & Rig.GVA, Rig.GVA);
                due("EPC", rig.told(Rig.EPC), AT);
            }
        }
        int first = Tables.middle(Tables.ALL & ~Tables.A);
        Rig rig = guest(Rig.S, Rig.SPVP, first, Tables.leaf(Tables.ALL)).control(Rig.HEDELEG, -1).step(LOAD);
        trapped("the first stage's is not passed down", rig, 13, Tables.PAGE);
        due("nothing of it goes to VS", rig.told(Rig.VCAUSE), Rig.NO_TRAP);
    }

    private void numbers() {
        says("and have the numbers of loads and stores, also for execution.");
        int[] words = {LOAD, EXECUTE, STORE};
        int[][] causes = {{4, 5, 13, 21}, {4, 5, 13, 21}, {6, 7, 15, 23}};
        int user = Tables.ALL | Tables.USER;
        for (int i = 0; i < words.length; i++) {
            Rig rig = guest(Rig.S, 0, 0, 0).register(6, PLACE + 2).step(words[i]);
            trapped("misaligned", rig, causes[i][0], PLACE + 2);
            rig = guest(Rig.S, 0, 0, 0).register(6, Rig.MEMORY).step(words[i]);
            trapped("outside", rig, causes[i][1], Rig.MEMORY);
            rig = guest(Rig.S, 0, Tables.middle(user & ~Tables.A), Tables.leaf(user)).step(words[i]);
            trapped("first stage", rig, causes[i][2], Tables.PAGE);
            rig = guest(Rig.S, 0, Tables.middle(user), Tables.leaf(Tables.ALL)).step(words[i]);
            trapped("second stage", rig, causes[i][3], Tables.PAGE);
            due("HTVAL", rig.told(Rig.HTVAL), Tables.MIDDLE * 1024);
            due("HTINST", rig.told(Rig.HTINST), 0);
            rig = guest(Rig.S, 0, Tables.middle(user), Tables.leaf(user));
            rig.words(Tables.place(Tables.H_TABLE, Tables.VS_TABLE), 0).step(words[i]);
            trapped("an entry's place", rig, causes[i][3], Tables.PAGE);
            due("HTVAL of an entry's place", rig.told(Rig.HTVAL), Tables.place(Tables.VS_TABLE, 5) / 4);
            due("HTINST of an entry's place", rig.told(Rig.HTINST), 0x2000);
        }
        trapped("two bytes at an odd address", rig(Rig.S, 0).register(6, 1).step(Asm.guestLoad(50, 3, 5, 6)), 4, 1);
        trapped("two bytes stored there", rig(Rig.S, 0).register(6, 1).step(Asm.guestStore(51, 7, 6)), 6, 1);
        Rig rig = guest(Rig.S, 0, Tables.middle(user & ~Tables.X), Tables.leaf(user)).step(EXECUTE);
        trapped("what is not X for execution", rig, 13, Tables.PAGE);
        rig = guest(Rig.S, 0, Tables.middle(user), Tables.leaf(user & ~Tables.X)).step(EXECUTE);
        trapped("what is not X for execution in the second stage", rig, 21, Tables.PAGE);
    }

    private static boolean isForm(int g, int b, int d) {
        boolean loads = (g == 48 || g == 50) && (b == 0 || b == 1) || g == 52 && b == 0;
        boolean executes = (g == 50 || g == 52) && b == 3;
        return loads || executes || (g == 49 || g == 51 || g == 53) && d == 0;
    }

    private void otherForms() {
        says("(What is not so is illegal in S and U, also in VS and VU; this comes before.)");
        for (int g = 0; g < 128; g++) {
            for (int b = 0; b < 32; b++) {
                for (int d : new int[] {0, 5}) {
                    int word = Asm.registerForm(115, 4, d, 6, b, g);
                    boolean form = isForm(g, b, d);
                    for (int mode = 0; mode < 4; mode++) {
                        int cause = !form ? ILLEGAL : Rig.isVirtual(mode) ? VIRTUAL : FINE;
                        formed("g " + g + ", b " + b + ", d " + d + " in " + mode, mode, word, cause);
                    }
                }
            }
        }
        Rig rig = Rig.in(Rig.VS).control(Rig.HEDELEG, 4).step(Asm.guestLoad(48, 2, 5, 6));
        due("it may be passed down", rig.told(Rig.VCAUSE), ILLEGAL);
        rig = Rig.in(Rig.VS).control(Rig.HEDELEG, -1).step(LOAD);
        due("a virtual one may not", rig.told(Rig.CAUSE), VIRTUAL);
    }

    private void formed(String what, int mode, int word, int cause) {
        Rig rig = new Rig().control(Rig.HSTATUS, Rig.HU).register(6, PLACE).place(AT, mode).step(word);
        due(what + ": traps", rig.count(4), cause == FINE ? 0 : 1);
        if (cause != FINE) {
            due(what + ": CAUSE", rig.told(Rig.CAUSE), cause);
            due(what + ": TVAL", rig.told(Rig.TVAL), word);
            due(what + ": GVA", rig.hstatus() & Rig.GVA, 0);
        }
    }
}
