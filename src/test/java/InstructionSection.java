/** INSTRUCTIONS: the fields of a word, and what each one does. */
final class InstructionSection extends Section {
    private static final int AT = Rig.AT;

    InstructionSection(Checks checks) {
        super(checks);
    }

    @Override
    void run() {
        fields();
        immediates();
        storeOffsets();
        branchOffsets();
        uppers();
        jumpOffsets();
        lostInX0();
        illegal();
        upperInstructions();
        jumps();
        jumpsToRegisters();
        branches();
        noPlaces();
        loads();
        stores();
        fences();
        immediateSums();
        immediateShifts();
        sums();
        shifts();
        products();
        quotients();
        rests();
        system();
    }

    private static Rig rig() {
        return Rig.in(Rig.S);
    }

    // Fields

    private void fields() {
        says("INSTRUCTIONS. A word has fields: op (bits 6 .. 0), d (11 .. 7), f (14 .. 12), a (19 .. 15), "
            + "b (24 .. 20), g (31 .. 25);");
        for (int n = 1; n < 32; n++) {
            int other = n == 1 ? 2 : 1;
            due("d " + n, rig().register(other, 40).step(Asm.register(0, 0, n, other, other)).x(n), 80);
            Rig rig = rig().register(n, 50).register(other, 8).step(Asm.register(0, 32, other, n, other));
            due("a " + n, rig.x(other), 42);
            rig = rig().register(n, 50).register(other, 8).step(Asm.register(0, 32, other, other, n));
            due("b " + n, rig.x(other), -42);
        }
        due("f 7", rig().register(6, 12).register(7, 10).step(Asm.register(7, 0, 5, 6, 7)).x(5), 8);
        due("f 0", rig().register(6, 12).register(7, 10).step(Asm.register(0, 0, 5, 6, 7)).x(5), 22);
        due("g 1", rig().register(6, 12).register(7, 10).step(Asm.register(0, 1, 5, 6, 7)).x(5), 120);
        outcome("g 127", rig(), Asm.register(0, 127, 5, 6, 7), ILLEGAL);
    }

    private void immediates() {
        says("I is bits 31 .. 20, with sign;");
        for (int n = 20; n < 31; n++) {
            due("I by bit " + n, rig().step(19 | 5 << 7 | 1 << n).x(5), 1 << n - 20);
        }
        due("I by bit 31", rig().step(19 | 5 << 7 | 1 << 31).x(5), -2048);
        due("the most I", rig().step(Asm.add(5, 0, 2047)).x(5), 2047);
        due("the least I", rig().step(Asm.add(5, 0, -2048)).x(5), -2048);
    }

    private void storeOffsets() {
        says("T is g and d (bits 11 .. 5, 4 .. 0), with sign;");
        int base = 0x8000;
        for (int n = 0; n < 12; n++) {
            int field = n < 5 ? n + 7 : n + 20;
            int offset = n == 11 ? -2048 : 1 << n;
            Rig rig = rig().register(6, base).register(7, 0xab).step(Asm.store(0, 7, 6, 0) | 1 << field);
            int at = base + offset;
            due("T by bit " + field, rig.word(at & -4), 0xab << 8 * (at & 3));
        }
        Rig rig = rig().register(6, base).register(7, 0xab).step(Asm.store(0, 7, 6, 2047)).step(Asm.store(0, 7, 6, -1));
        due("the most T", rig.word(base + 2044), 0xab000000);
        due("T of -1", rig.word(base - 4), 0xab000000);
    }

    private void branchOffsets() {
        says("B is bit 31, 7, 30 .. 25, 11 .. 8 (bits 12, 11, 10 .. 5, 4 .. 1), with sign;");
        int[] fields = {8, 9, 10, 11, 25, 26, 27, 28, 29, 30, 7, 31};
        for (int i = 0; i < fields.length; i++) {
            int offset = i == 11 ? -4096 : 2 << i;
            Rig rig = rig().step(Asm.branch(0, 0, 0, 0) | 1 << fields[i]);
            // What is no multiple of 4 is told by TVAL.
            due("B by bit " + fields[i], offset == 2 ? rig.told(Rig.TVAL) : rig.pc(), AT + offset);
        }
        due("the most B", rig().step(Asm.branch(0, 0, 0, 4092)).pc(), AT + 4092);
        due("B of 4094", rig().step(Asm.branch(0, 0, 0, 4094)).told(Rig.TVAL), AT + 4094);
        due("the least B", rig().step(Asm.branch(0, 0, 0, -4096)).pc(), AT - 4096);
        due("B of 0", rig().step(Asm.branch(0, 0, 0, 0)).pc(), AT);
    }

    private void uppers() {
        says("H is bits 31 .. 12 and twelve 0;");
        for (int n = 12; n < 32; n++) {
            due("H by bit " + n, rig().step(55 | 5 << 7 | 1 << n).x(5), 1 << n);
        }
        due("the twelve 0", rig().step(55 | 31 << 7 | 0xfffff000).x(31), 0xfffff000);
    }

    private void jumpOffsets() {
        says("J is bit 31, 19 .. 12, 20, 30 .. 21 (bits 20, 19 .. 12, 11, 10 .. 1), with sign.");
        int[] fields = {21, 22, 23, 24, 25, 26, 27, 28, 29, 30, 20, 12, 13, 14, 15, 16, 17, 18, 19, 31};
        for (int i = 0; i < fields.length; i++) {
            int offset = i == 19 ? -(1 << 20) : 2 << i;
            Rig rig = rig().step(111 | 1 << fields[i]);
            due("J by bit " + fields[i], offset == 2 ? rig.told(Rig.TVAL) : rig.pc(), AT + offset);
        }
        due("the most J", rig().step(Asm.jump(0, 0xffffc)).pc(), AT + 0xffffc);
        due("the least J", rig().step(Asm.jump(0, -0x100000)).pc(), AT - 0x100000);
        due("J of 0", rig().step(Asm.jump(0, 0)).pc(), AT);
    }

    private void lostInX0() {
        says("x[n] is a register; what is put to x0 is lost.");
        int[] words = {
            Asm.upper(55, 0, -1), Asm.upper(23, 0, -1), Asm.jump(0, 8), Asm.jumpTo(0, 6, 0), Asm.load(2, 0, 6, 0),
            Asm.add(0, 6, 9), Asm.register(0, 0, 0, 6, 6), Asm.control(2, 0, Rig.SCRATCH, 0),
            Asm.guestLoad(52, 0, 0, 6),
        };
        for (int word : words) {
            Rig rig = rig().control(Rig.SCRATCH, 77).register(6, 0x2000).words(0x2000, 99).step(word);
            untrapped("a word with d 0", rig);
            due("x0", rig.x(0), 0);
            due("of x0", rig.step(Asm.add(5, 0, 3)).x(5), 3);
        }
        Rig rig = rig().register(6, 1).step(Asm.load(2, 0, 6, 0));
        trapped("a load to x0 is a load still", rig, 4, 1);
    }

    private void illegal() {
        says("What is not named here is ILLEGAL: exception 2.");
        int[] named = {55, 23, 111, 103, 99, 3, 35, 15, 19, 51, 115};
        for (int op = 0; op < 128; op++) {
            boolean isNamed = false;
            for (int one : named) {
                isNamed |= one == op;
            }
            if (!isNamed) {
                outcome("op " + op, rig(), op | 5 << 7, ILLEGAL);
                outcome("op " + op + " with all else set", rig(), op | ~127, ILLEGAL);
            }
        }
        outcome("0", rig(), 0, ILLEGAL);
        outcome("-1", rig(), -1, ILLEGAL);
        for (int f = 0; f < 8; f++) {
            legalByF("103", Asm.immediateForm(103, f, 5, 0, 64), f == 0);
            legalByF("99", Asm.branch(f, 0, 6, 64), f < 2 || f > 3);
            legalByF("3", Asm.load(f, 5, 0, 64), f < 3 || f == 4 || f == 5);
            legalByF("35", Asm.store(f, 5, 0, 64), f < 3);
            legalByF("15", Asm.immediateForm(15, f, 5, 6, 64), f < 2);
            for (int g = 0; g < 128; g++) {
                boolean shift = f == 1 || f == 5;
                legalByF("19, g " + g, Asm.registerForm(19, f, 5, 6, 3, g), !shift || g == 0 || f == 5 && g == 32);
                legalByF("51, g " + g, Asm.register(f, g, 5, 6, 7), g < 2 || g == 32 && (f == 0 || f == 5));
            }
        }
    }

    private void legalByF(String what, int word, boolean legal) {
        Rig rig = rig().register(5, 77).register(6, 1).register(7, 1).step(word);
        if (legal) {
            untrapped("op " + what + ", legal", rig);
        } else {
            trapped("op " + what + ", illegal", rig, ILLEGAL, word);
            due("x5 stays", rig.x(5), 77);
        }
    }

    // What they do

    private void upperInstructions() {
        says("55: x[d] is H.");
        due("the most", rig().step(Asm.upper(55, 5, MOST)).x(5), 0x7ffff000);
        due("the least", rig().step(Asm.upper(55, 5, LEAST)).x(5), LEAST);
        due("0", rig().register(5, 7).step(Asm.upper(55, 5, 0)).x(5), 0);
        says("23: x[d] is PC + H.");
        due("on", rig().step(Asm.upper(23, 5, 0x3000)).x(5), AT + 0x3000);
        due("back", rig().step(Asm.upper(23, 5, 0xfffff000)).x(5), 0);
        due("round", rig().step(Asm.upper(23, 5, 0x7ffff000)).x(5), LEAST);
        due("by 0", rig().step(Asm.upper(23, 5, 0)).x(5), AT);
        Rig rig = Tables.lastPage().words(Tables.LAST_WORD, Asm.upper(23, 5, 4096)).run(1);
        due("round from the last word", rig.x(5), 4092);
    }

    private void jumps() {
        says("111: x[d] is PC + 4, on at PC + J.");
        Rig rig = rig().step(Asm.jump(5, -2048));
        due("back", rig.pc(), AT - 2048);
        due("its way back", rig.x(5), AT + 4);
        due("on", rig().step(Asm.jump(5, 2048)).pc(), AT + 2048);
        rig = Tables.lastPage().words(Tables.LAST_WORD, Asm.jump(5, 12)).run(1);
        due("round", rig.pc(), 8);
        due("its way back goes round, too", rig.x(5), 0);
        due("x5", rig.told(Rig.CAUSE), Rig.NO_TRAP);
        rig = rig().place(0, Rig.S).step(Asm.jump(5, -8));
        due("round below 0", rig.pc(), -8);
        rig = rig().step(Asm.jump(0, 1 << 19));
        untrapped("outside of memory: that is of the next fetch", rig);
        rig.run(1);
        trapped("the next fetch", rig, 1, AT + (1 << 19));
    }

    private void jumpsToRegisters() {
        says("103, f 0: on at x[a] + I with bit 0 cleared, x[d] is PC + 4 (by the old x[a]).");
        Rig rig = rig().register(6, 1000).step(Asm.jumpTo(5, 6, 24));
        due("on at x[a] + I", rig.pc(), 1024);
        due("the way back", rig.x(5), AT + 4);
        due("bit 0 cleared", rig().register(6, 1000).step(Asm.jumpTo(5, 6, 25)).pc(), 1024);
        due("bit 0 of the sum, not of x[a]", rig().register(6, 1001).step(Asm.jumpTo(5, 6, 23)).pc(), 1024);
        rig = rig().register(5, 1027).step(Asm.jumpTo(5, 5, -2));
        due("by the old x[a]", rig.pc(), 1024);
        due("x[d]", rig.x(5), AT + 4);
        due("round", rig().register(6, -4).step(Asm.jumpTo(0, 6, 12)).pc(), 8);
        due("round below 0", rig().register(6, 4).step(Asm.jumpTo(0, 6, -12)).pc(), -8);
        due("farthest", rig().register(6, LEAST).step(Asm.jumpTo(0, 6, -4)).pc(), MOST - 3);
    }

    private void taken(int f, int p, int q, boolean taken) {
        Rig rig = rig().register(6, p).register(7, q).step(Asm.branch(f, 6, 7, -1000));
        due("f " + f + " of " + p + ", " + q, rig.pc(), taken ? AT - 1000 : AT + 4);
        untrapped("f " + f, rig);
    }

    private void branches() {
        says("99: on at PC + B, if f 0: x[a] = x[b], 1: not, 4: less, 5: not, 6: less U, 7: not.");
        int[] edges = {0, 1, -1, LEAST, MOST, LEAST + 1, MOST - 1, 5};
        for (int p : edges) {
            for (int q : edges) {
                taken(0, p, q, p == q);
                taken(1, p, q, p != q);
                taken(4, p, q, p < q);
                taken(5, p, q, p >= q);
                taken(6, p, q, Integer.compareUnsigned(p, q) < 0);
                taken(7, p, q, Integer.compareUnsigned(p, q) >= 0);
            }
        }
        due("round", Tables.lastPage().words(Tables.LAST_WORD, Asm.branch(0, 0, 0, 12)).run(1).pc(), 8);
        due("no way back is put", rig().register(1, 7).step(Asm.branch(0, 0, 0, 8) | 1 << 7).x(1), 7);
    }

    private void noPlace(String what, Rig rig, int word, int place) {
        rig.register(5, 77).step(word);
        trapped(what, rig, 0, place);
        due(what + ": EPC", rig.told(Rig.EPC), AT);
        due(what + ": x[d] stays", rig.x(5), 77);
    }

    private void noPlaces() {
        says("A place to go on at that is no multiple of 4 is exception 0 (of this instruction; x[d] stays).");
        noPlace("op 111", rig(), Asm.jump(5, 2), AT + 2);
        noPlace("op 111 back", rig(), Asm.jump(5, -2), AT - 2);
        noPlace("op 103", rig().register(6, 1000), Asm.jumpTo(5, 6, 2), 1002);
        noPlace("op 103, bit 0 cleared first", rig().register(6, 1000), Asm.jumpTo(5, 6, 3), 1002);
        noPlace("op 103, its own x[d]", rig(), Asm.jumpTo(5, 5, 1), 78);
        noPlace("op 103, outside of memory", rig().register(6, -2), Asm.jumpTo(5, 6, 0), -2);
        noPlace("op 99", rig(), Asm.branch(0, 0, 0, 6), AT + 6);
        untrapped("a branch that is not taken", rig().step(Asm.branch(1, 0, 0, 6)));
    }

    private void loaded(String what, int f, int at, int want) {
        Rig rig = rig().words(8188, 0x55000000, 0x7fff8000, 0xff7f80fe).register(6, 8192 + 20);
        due(what, rig.step(Asm.load(f, 5, 6, at - 20)).x(5), want);
        due("x[a] stays", rig.x(6), 8192 + 20);
    }

    private void loads() {
        says("3: x[d] is loaded from x[a] + I:");
        loaded("before the base", 4, -1, 0x55);
        due("round", rig().words(0, 88).register(6, -4).step(Asm.load(2, 5, 6, 4)).x(5), 88);
        due("round below 0", rig().register(6, 4).step(Asm.load(2, 5, 6, -8)).told(Rig.TVAL), -4);
        due("to its own base", rig().words(8192, 33).register(5, 8192).step(Asm.load(2, 5, 5, 0)).x(5), 33);
        says("f 0 a byte with sign,");
        loaded("0x7f", 0, 6, 0x7f);
        loaded("0x80", 0, 5, -128);
        loaded("0xff", 0, 7, -1);
        loaded("0", 0, 0, 0);
        says("1 two bytes with sign,");
        loaded("0x7fff", 1, 2, 0x7fff);
        loaded("0x8000", 1, 0, -0x8000);
        loaded("0xff7f", 1, 6, 0xffffff7f);
        says("2 a word,");
        loaded("0x7fff8000", 2, 0, 0x7fff8000);
        loaded("0xff7f80fe", 2, 4, 0xff7f80fe);
        says("4 a byte U,");
        loaded("0x7f", 4, 6, 0x7f);
        loaded("0x80", 4, 5, 0x80);
        loaded("0xff", 4, 7, 0xff);
        says("5 two bytes U.");
        loaded("0x7fff", 5, 2, 0x7fff);
        loaded("0x8000", 5, 0, 0x8000);
        loaded("0xff7f", 5, 6, 0xff7f);
    }

    private void stores() {
        says("35: the lowest byte (f 0), two bytes (1), word (2) of x[b] is stored at x[a] + T.");
        int[][] rows = {
            {0, 0, 0x111111aa}, {0, 1, 0x1111aa11}, {0, 2, 0x11aa1111}, {0, 3, 0xaa111111}, {1, 0, 0x111199aa},
            {1, 2, 0x99aa1111}, {2, 0, 0x778899aa},
        };
        for (int[] row : rows) {
            Rig rig = rig().words(8188, 0x11111111, 0x11111111, 0x11111111).register(6, 8192 + 1000);
            rig.register(7, 0x778899aa).step(Asm.store(row[0], 7, 6, row[1] - 1000));
            due("f " + row[0] + " at " + row[1], rig.word(8192), row[2]);
            due("before it", rig.word(8188), 0x11111111);
            due("behind it", rig.word(8196), 0x11111111);
            due("x[b] stays", rig.x(7), 0x778899aa);
        }
        due("round", rig().register(6, -4).register(7, 5).step(Asm.store(2, 7, 6, 4)).word(0), 5);
        due("round below 0", rig().register(6, 4).step(Asm.store(2, 7, 6, -8)).told(Rig.TVAL), -4);
        due("x0 is stored", rig().words(0, 9).step(Asm.store(2, 0, 0, 0)).word(0), 0);
    }

    private void fences() {
        says("15, f 0 or 1: nothing.");
        for (int f = 0; f < 2; f++) {
            Rig rig = rig().register(5, 77);
            outcome("f " + f, rig, Asm.immediateForm(15, f, 5, 3, -1), Rig.NO_TRAP);
            due("x5", rig.x(5), 77);
        }
        for (int mode : new int[] {Rig.U, Rig.VU, Rig.VS}) {
            outcome("in " + mode, Rig.in(mode), Asm.immediateForm(15, 0, 5, 3, -1), Rig.NO_TRAP);
        }
    }

    private void immediate(int f, int p, int i, int want) {
        Rig rig = rig().register(6, p).step(Asm.immediate(f, 5, 6, i));
        due("f " + f + " of " + p + ", " + i, rig.x(5), want);
        due("x[a]", rig.x(6), p);
        due("PC", rig.pc(), AT + 4);
    }

    private void immediateSums() {
        says("19: x[d] is, by f, 0: x[a] + I;");
        immediate(0, 5, -7, -2);
        immediate(0, MOST, 1, LEAST);
        immediate(0, LEAST, -1, MOST);
        immediate(0, LEAST, -2048, MOST - 2047);
        says("2: 1 if x[a] is less than I, else 0;");
        immediate(2, -1, 0, 1);
        immediate(2, 0, 0, 0);
        immediate(2, 0, -1, 0);
        immediate(2, LEAST, -2048, 1);
        immediate(2, MOST, 2047, 0);
        immediate(2, 2046, 2047, 1);
        immediate(2, -2048, -2048, 0);
        says("3: so U;");
        immediate(3, -1, 0, 0);
        immediate(3, 0, 0, 0);
        immediate(3, 0, 1, 1);
        immediate(3, 5, -1, 1);
        immediate(3, -1, -1, 0);
        immediate(3, -2049, -2048, 1);
        immediate(3, LEAST, 2047, 0);
        says("4: xor; 6: or; 7: and; 1, g 0:");
        immediate(4, 0xf0f0, -1, ~0xf0f0);
        immediate(4, 0xf0f0, 0xff, 0xf00f);
        immediate(6, 0xf0f0, 0x0f, 0xf0ff);
        immediate(6, 1, -2048, -2047);
        immediate(7, -1, -16, -16);
        immediate(7, 0xfff, 0x7f0, 0x7f0);
    }

    private void immediateShifts() {
        says("1, g 0: x[a] shifted left by b;");
        immediate(1, 3, 31, LEAST);
        immediate(1, 3, 0, 3);
        immediate(1, -1, 1, -2);
        says("5, g 0: right, U;");
        immediate(5, LEAST, 31, 1);
        immediate(5, -1, 0, -1);
        immediate(5, -1, 4, 0x0fffffff);
        says("5, g 32: right, with sign.");
        immediate(5, LEAST, 32 << 5 | 31, -1);
        immediate(5, -1, 32 << 5, -1);
        immediate(5, -16, 32 << 5 | 2, -4);
        immediate(5, MOST, 32 << 5 | 30, 1);
    }

    private void register(int g, int f, int p, int q, int want) {
        Rig rig = rig().register(6, p).register(7, q).step(Asm.register(f, g, 5, 6, 7));
        due("g " + g + ", f " + f + " of " + p + ", " + q, rig.x(5), want);
        due("PC", rig.pc(), AT + 4);
        rig = rig().register(6, p).register(7, q).step(Asm.register(f, g, 7, 6, 7));
        due("into x[b]: g " + g + ", f " + f + " of " + p + ", " + q, rig.x(7), want);
    }

    private void sums() {
        says("51: x[d] is of x[a], x[b], with g 0, by f 0: sum;");
        register(0, 0, MOST, 1, LEAST);
        register(0, 0, LEAST, LEAST, 0);
        register(0, 0, -1, -1, -2);
        says("2: 1 if less; 3: so U;");
        register(0, 2, -1, 1, 1);
        register(0, 2, 1, -1, 0);
        register(0, 2, LEAST, MOST, 1);
        register(0, 2, 5, 5, 0);
        register(0, 3, -1, 1, 0);
        register(0, 3, 1, -1, 1);
        register(0, 3, MOST, LEAST, 1);
        register(0, 3, -1, -1, 0);
        says("4: xor; 5: so right, U; 6: or; 7: and;");
        register(0, 4, 0xff, -1, ~0xff);
        register(0, 6, 0xf0, 0x0f, 0xff);
        register(0, 7, 0xff, 0x3c, 0x3c);
        says("g 32, f 0: difference;");
        register(32, 0, 3, 5, -2);
        register(32, 0, LEAST, 1, MOST);
        register(32, 0, 0, LEAST, LEAST);
    }

    private void shifts() {
        says("1: shifted left by the lowest five bits of x[b];");
        register(0, 1, 1, 31, LEAST);
        register(0, 1, 5, 0, 5);
        register(0, 1, 5, 32, 5);
        register(0, 1, 1, 33, 2);
        register(0, 1, 1, -1, LEAST);
        register(0, 1, 1, LEAST, 1);
        says("5: so right, U;");
        register(0, 5, LEAST, 31, 1);
        register(0, 5, -1, 32, -1);
        register(0, 5, LEAST, 63, 1);
        register(0, 5, -1, -1, 1);
        says("f 5: so right, with sign;");
        register(32, 5, LEAST, 31, -1);
        register(32, 5, LEAST, 32, LEAST);
        register(32, 5, LEAST, 63, -1);
        register(32, 5, MOST, -1, 0);
        register(32, 5, -8, 1, -4);
    }

    private void products() {
        says("g 1: 0: product;");
        register(1, 0, 65537, 65537, 131073);
        register(1, 0, LEAST, -1, LEAST);
        register(1, 0, -3, 5, -15);
        says("1: upper 32 bits of the product;");
        register(1, 1, LEAST, LEAST, 1 << 30);
        register(1, 1, -1, 1, -1);
        register(1, 1, -1, -1, 0);
        register(1, 1, MOST, MOST, 0x3fffffff);
        register(1, 1, LEAST, MOST, 0xc0000000);
        says("2: of it, x[b] U;");
        register(1, 2, -1, -1, -1);
        register(1, 2, LEAST, -1, LEAST);
        register(1, 2, 1, -1, 0);
        register(1, 2, MOST, -1, MOST - 1);
        register(1, 2, -1, 1, -1);
        says("3: of it, both U;");
        register(1, 3, -1, -1, -2);
        register(1, 3, LEAST, 2, 1);
        register(1, 3, LEAST, LEAST, 1 << 30);
        register(1, 3, -1, 1, 0);
    }

    private void quotients() {
        says("4: quotient to 0; 5: U;");
        register(1, 4, -7, 2, -3);
        register(1, 4, 7, -2, -3);
        register(1, 4, -7, -2, 3);
        register(1, 4, 0, 5, 0);
        register(1, 5, -1, 2, MOST);
        register(1, 5, 7, -2, 0);
        register(1, 5, LEAST, -1, 0);
        register(1, 5, -1, -1, 1);
        says("(Quotient by 0: all bits;");
        for (int p : new int[] {0, 7, -7, LEAST, MOST}) {
            register(1, 4, p, 0, -1);
            register(1, 5, p, 0, -1);
        }
    }

    private void rests() {
        says("6: rest with the sign of x[a]; 7: rest U.");
        register(1, 6, -7, 2, -1);
        register(1, 6, 7, -2, 1);
        register(1, 6, -7, -2, -1);
        register(1, 6, -6, 2, 0);
        register(1, 7, -1, 10, 5);
        register(1, 7, 7, -2, 7);
        register(1, 7, LEAST, -1, LEAST);
        says("rest by 0: x[a];");
        for (int p : new int[] {0, 7, -7, LEAST, MOST}) {
            register(1, 6, p, 0, p);
            register(1, 7, p, 0, p);
        }
        says("the least number by -1: itself, rest 0.)");
        register(1, 4, LEAST, -1, LEAST);
        register(1, 6, LEAST, -1, 0);
        register(1, 4, LEAST + 1, -1, MOST);
        register(1, 6, LEAST + 1, -1, 0);
    }

    private void system() {
        says("115: see SYSTEM.");
        outcome("its wfi", rig(), Asm.WFI, Rig.NO_TRAP);
    }
}
