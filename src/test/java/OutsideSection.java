import java.util.stream.IntStream;

/** THE MACHINE, and promises 1 to 11 and 13 to 15: what is seen and set from outside, between the steps. */
final class OutsideSection extends Section {
    private static final int FRAMES = 64;
    private static final int EMPTY_FRAME = -1174962175;
    private static final int[] MODES = {Rig.U, Rig.S, Rig.VU, Rig.VS};

    OutsideSection(Checks checks) {
        super(checks);
    }

    @Override
    void run() {
        lastCall();
        beginning();
        betweenSteps();
        whenOff();
        newObject();
        begin();
        poke();
        badPokes();
        word();
        sum();
        badSums();
        setRegister();
        register();
        setControl();
        badControls();
        control();
        place();
        badPlaces();
        line();
        countsOfPlace();
        countsOfTraps();
        countsOfFirmware();
        console();
        breaches();
    }

    private void lastCall() {
        says("An object is used for at most 512 calls after it has been made; what later calls answer is free.");
        HyperHost host = new HyperHost();
        host.poke(0, Asm.add(5, 5, 1), Asm.jump(0, -4), 0, 0, 0);
        for (int call = 2; call <= 511; call++) {
            due("call " + call, host.run(2000), 2000);
        }
        due("the 512th call", host.register(5), 510 * 1000);
    }

    private static int emptySum(int frames) {
        int sum = 1;
        for (int i = 0; i < frames * 1024; i++) {
            sum *= 31;
        }
        return sum;
    }

    private void asAtFirst(String when, HyperHost host) {
        int[] counts = {Rig.S, 0, 0, 0, 0, 0, 0, 0, 0, -1, MOST};
        for (int what = 0; what < counts.length; what++) {
            due(when + ": count(" + what + ")", host.count(what), counts[what]);
        }
        for (int n = 0; n < 32; n++) {
            due(when + ": register(" + n + ")", host.register(n), 0);
        }
        for (int number = 0; number < 4096; number++) {
            if (Rig.isNumber(number)) {
                due(when + ": control(" + number + ")", host.control(number), 0);
            }
        }
        due(when + ": console(0)", host.console(0), -1);
        due(when + ": breaches()", host.breaches(), 0);
        due(when + ": sum", host.sum(0, FRAMES), emptySum(FRAMES));
        due(when + ": line", host.line(false), false);
    }

    private void beginning() {
        says("THE MACHINE begins in S, with the PC and all registers 0, TIME 0, the line off, memory 0, an empty "
            + "console.");
        asAtFirst("a new one", new HyperHost());
    }

    private void betweenSteps() {
        says("It is seen from outside between its steps;");
        Rig rig = Rig.in(Rig.S).words(Rig.AT, Asm.add(5, 5, 1), Asm.add(5, 5, 1), Asm.add(5, 5, 1)).run(1);
        due("behind the first step", rig.x(5), 1);
        rig.register(5, 10).run(1);
        due("with what was set", rig.x(5), 11);
        rig.words(Rig.AT + 8, Asm.add(5, 5, 7)).run(1);
        due("with what was poked", rig.x(5), 18);
        due("TIME", rig.count(2), 3);
        rig.control(Rig.STATUS, Rig.IE_BIT).control(Rig.IE, 0x200).line(true).line(false).run(1);
        due("a line that is off again between the steps", rig.count(6), 0);
    }

    private void whenOff() {
        says("when it is OFF, no step is done any more until begin(); all else can be done.");
        Rig rig = Rig.in(Rig.S).call(1, 65, 0).call(8, 0, 0).control(Rig.IE, -1).control(Rig.STATUS, -1).line(true);
        HyperHost host = rig.host();
        for (int steps : new int[] {1, 2000, 0}) {
            due("run(" + steps + ")", host.run(steps), 0);
        }
        due("run(2001)", host.run(2001), -1);
        due("TIME", host.count(2), 2);
        due("interrupts", host.count(6), 0);
        due("place", host.place(400, Rig.VU), Rig.S);
        due("its PC", host.count(1), 400);
        due("its mode", host.count(0), Rig.VU);
        due("poke", host.poke(400, Asm.NOP, 2, 3, 4, 5), 0);
        due("word", host.word(404), 2);
        due("sum", host.sum(5, 1), EMPTY_FRAME);
        due("setRegister", host.setRegister(5, 7), 0);
        due("register", host.register(5), 7);
        due("setControl", host.setControl(Rig.SCRATCH, 9), 0);
        due("control", host.control(Rig.SCRATCH), 9);
        due("line", host.line(false), true);
        due("console", host.console(0), 65);
        due("breaches", host.breaches(), 0);
        due("off still", host.run(1), 0);
        due("count(8)", host.count(8), 1);
        host.begin();
        due("count(8) behind begin()", host.count(8), 0);
        due("run behind begin()", host.run(3), 3);
    }

    private void newObject() {
        says("As behind begin().");
        HyperHost begun = new HyperHost();
        begun.poke(0, Asm.add(5, 5, 1), 0, 0, 0, 0);
        begun.run(9);
        begun.begin();
        asAtFirst("begun", begun);
        HyperHost other = new HyperHost();
        other.poke(0, 1, 2, 3, 4, 5);
        other.setRegister(5, 7);
        other.setControl(Rig.SCRATCH, 9);
        other.line(true);
        asAtFirst("new beside another one", new HyperHost());
    }

    private void begun(String what, Rig rig) {
        rig.host().begin();
        asAtFirst("begun, " + what, rig.host());
    }

    private void begin() {
        says("All as at first.");
        begun("nothing done", new Rig());
        Rig rig = new Rig();
        for (int frame = 0; frame < FRAMES; frame++) {
            rig.words(4096 * frame, 1, 2, 3, 4, 5).words(4096 * frame + 4076, 1, 2, 3, 4, 5);
        }
        begun("memory", rig);
        rig = new Rig();
        for (int n = 0; n < 32; n++) {
            rig.register(n, n + 1);
        }
        begun("registers", rig);
        rig = new Rig().control(Rig.HIDELEG, -1);
        for (int[] numbers : new int[][] {Rig.H_NUMBERS, Rig.VS_NUMBERS, Rig.S_NUMBERS}) {
            for (int number : numbers) {
                rig.control(number, -1);
            }
        }
        begun("control registers", rig);
        begun("the line", new Rig().line(true));
        begun("the place", new Rig().place(-4, Rig.VU));
        begun("the ALARM", Rig.in(Rig.S).call(0, 1, 0));
        begun("OFF", Rig.in(Rig.S).call(8, 0, 0));
        begun("traps to S", Rig.in(Rig.VU).step(0));
        begun("traps to VS", Rig.in(Rig.VU).control(Rig.HEDELEG, 4).step(0));
        begun("interrupts", Rig.in(Rig.U).control(Rig.IE, 2).control(Rig.IP, 2).run(1));
        rig = Rig.in(Rig.S).call(1, 65, 0).call(1, 66, 0);
        begun("the console", rig);
        rig.call(1, 67, 0);
        due("the console begins anew", rig.host().console(0), 67);
        due("with one byte", rig.host().console(1), -1);
        rig.host().begin();
        begun("twice", rig);
    }

    private void poke() {
        says("Five words come to memory, from an address on: 0.");
        HyperHost host = new HyperHost();
        due("poke(8)", host.poke(8, 1, -2, 3, LEAST, MOST), 0);
        int[] words = {0, 0, 1, -2, 3, LEAST, MOST, 0};
        for (int i = 0; i < words.length; i++) {
            due("word(" + 4 * i + ")", host.word(4 * i), words[i]);
        }
        due("poke(0)", host.poke(0, 11, 12, 13, 14, 15), 0);
        due("the first word", host.word(0), 11);
        due("the word behind", host.word(20), LEAST);
        due("poke(262124)", host.poke(262124, 6, 7, 8, 9, 10), 0);
        due("the last five words", host.word(262124) * 10 + host.word(262140), 70);
        due("over a frame's end", host.poke(4088, 21, 22, 23, 24, 25), 0);
        due("before the frame's end", host.word(4092), 22);
        due("behind the frame's end", host.word(4096), 23);
    }

    private void isBadPoke(int... addresses) {
        for (int address : addresses) {
            HyperHost host = new HyperHost();
            due("poke(" + address + ")", host.poke(address, 1, 2, 3, 4, 5), -1);
            due("nothing comes of poke(" + address + ")", host.sum(0, FRAMES), emptySum(FRAMES));
        }
    }

    private void badPokes() {
        says("BAD: it is below 0");
        isBadPoke(-4, -8, -16, -20, -24, -262144, LEAST, LEAST + 4);
        says("or no multiple of 4,");
        isBadPoke(1, 2, 3, 5, 4097, 262121, 262122, 262123, 262125, -1, -2, MOST);
        says("or one would be no word of memory.");
        isBadPoke(262128, 262132, 262136, 262140, 262144, 262148, 524288, 1 << 30, MOST - 3, MOST - 19);
    }

    private void word() {
        says("The word at an address;");
        HyperHost host = new HyperHost();
        host.poke(0, 0x81020304, 5, 6, 7, 8);
        host.poke(262124, 1, 1, 1, 76, 77);
        due("word(0)", host.word(0), 0x81020304);
        due("word(4)", host.word(4), 5);
        due("word(262136)", host.word(262136), 76);
        due("word(262140)", host.word(262140), 77);
        says("0 where there is none");
        for (int address : new int[] {-4, -8, -262144, LEAST, LEAST + 4, 262144, 262148, 524284, 1 << 30, MOST - 3}) {
            due("word(" + address + ")", host.word(address), 0);
        }
        due("breaches", host.breaches(), 0);
        says("(or it is no multiple of 4).");
        for (int address : new int[] {1, 2, 3, 5, 6, 7, 262137, 262138, 262139, 262141, 262142, 262143, -1, -2, -3,
            MOST}) {
            due("word(" + address + ")", host.word(address), 0);
        }
    }

    private void sum() {
        says("All words of some frames, from one on, by a number: at first 1; for each word 31 times it, and the "
            + "word.");
        HyperHost host = new HyperHost();
        due("an empty frame", host.sum(0, 1), EMPTY_FRAME);
        due("all frames, empty", host.sum(0, FRAMES), emptySum(FRAMES));
        int[] memory = new int[Rig.MEMORY / 4];
        poke(host, memory, 4076, 1, 2, 3, 4, -5);
        poke(host, memory, 4096, LEAST, MOST, -1, 4, 5);
        poke(host, memory, 3 * 4096 - 20, 1, 2, 3, 4, 5);
        poke(host, memory, 262124, 6, 7, 8, 9, 10);
        int[][] parts = {{0, 1}, {0, 2}, {1, 1}, {1, 2}, {2, 1}, {3, 1}, {62, 2}, {63, 1}, {1, 63}, {0, 63}, {0, 64}};
        for (int[] part : parts) {
            int sum = 1;
            for (int i = 1024 * part[0]; i < 1024 * (part[0] + part[1]); i++) {
                sum = 31 * sum + memory[i];
            }
            due("sum(" + part[0] + ", " + part[1] + ")", host.sum(part[0], part[1]), sum);
        }
    }

    private static void poke(HyperHost host, int[] memory, int address, int... words) {
        host.poke(address, words[0], words[1], words[2], words[3], words[4]);
        System.arraycopy(words, 0, memory, address / 4, 5);
    }

    private void isBadSum(int[]... parts) {
        HyperHost host = new HyperHost();
        for (int[] part : parts) {
            due("sum(" + part[0] + ", " + part[1] + ")", host.sum(part[0], part[1]), -1);
        }
    }

    private void badSums() {
        says("BAD: a first one below 0,");
        isBadSum(new int[][] {{-1, 1}, {-1, 2}, {-1, 64}, {-1, 65}, {-64, 64}, {LEAST, 1}, {LEAST, MOST}, {-1, 0}});
        says("BAD: a first one below 0, none,");
        isBadSum(new int[][] {{0, 0}, {5, 0}, {63, 0}, {64, 0}, {0, -1}, {5, -5}, {63, -1}, {63, LEAST}, {0, LEAST}});
        says("or one that there is not.");
        isBadSum(new int[][] {{64, 1}, {63, 2}, {62, 3}, {1, 64}, {0, 65}, {65, 1}, {MOST, 1}, {0, MOST}, {1, MOST},
            {63, MOST}, {MOST, MOST}, {1 << 20, 1}, {0, 1 << 20}, {1 << 30, 1 << 30}});
    }

    private void setRegister() {
        says("Register n becomes v (x0 stays): what it was.");
        HyperHost host = new HyperHost();
        for (int n = 0; n < 32; n++) {
            due("setRegister(" + n + ") at first", host.setRegister(n, LEAST + n), 0);
        }
        for (int n = 0; n < 32; n++) {
            due("setRegister(" + n + ") again", host.setRegister(n, MOST - n), n == 0 ? 0 : LEAST + n);
            due("register(" + n + ")", host.register(n), n == 0 ? 0 : MOST - n);
        }
        says("0, changing nothing: there is none.");
        for (int n : new int[] {-1, 32, 33, 64, LEAST, MOST, -32}) {
            due("setRegister(" + n + ")", host.setRegister(n, 5), 0);
            due("setRegister(" + n + ") again", host.setRegister(n, 6), 0);
            due("register(" + n + ")", host.register(n), 0);
        }
        for (int n = 0; n < 32; n++) {
            due("register(" + n + ") stays", host.register(n), n == 0 ? 0 : MOST - n);
        }
        due("the PC stays", host.count(1), 0);
    }

    private void register() {
        says("Register n; 0: there is none.");
        HyperHost host = new HyperHost();
        for (int n = 0; n < 32; n++) {
            host.setRegister(n, n + 100);
        }
        for (int n = 0; n < 32; n++) {
            due("register(" + n + ")", host.register(n), n == 0 ? 0 : n + 100);
        }
        host.place(44, Rig.S);
        for (int n : new int[] {-1, 32, 33, 63, 64, LEAST, MOST, -31}) {
            due("register(" + n + ")", host.register(n), 0);
        }
    }

    private void setControl() {
        says("A control register is written as in S (an S number: the S one): 0.");
        for (int mode : MODES) {
            for (int hstatus : new int[] {0, -1}) {
                HyperHost host = new HyperHost();
                host.setControl(Rig.HSTATUS, hstatus);
                host.place(0, mode);
                for (int number : new int[] {Rig.ATP, Rig.SCRATCH, Rig.VATP, Rig.VSCRATCH, Rig.HGATP, Rig.HTVAL}) {
                    due("setControl(" + number + ") in " + mode, host.setControl(number, number), 0);
                }
                due("ATP in " + mode, host.control(Rig.ATP), Rig.ATP);
                due("SCRATCH in " + mode, host.control(Rig.SCRATCH), Rig.SCRATCH);
                due("VS ATP in " + mode, host.control(Rig.VATP), Rig.VATP);
                due("VS SCRATCH in " + mode, host.control(Rig.VSCRATCH), Rig.VSCRATCH);
                due("HGATP in " + mode, host.control(Rig.HGATP), Rig.HGATP);
                due("HTVAL in " + mode, host.control(Rig.HTVAL), Rig.HTVAL);
                due("the mode stays", host.count(0), mode);
            }
        }
        HyperHost host = new HyperHost();
        for (int number = 0; number < 4096; number++) {
            if (Rig.isNumber(number) && !Rig.isTime(number)) {
                due("setControl(" + number + ")", host.setControl(number, -1), 0);
            }
        }
    }

    /** All numbers of twelve bits that are none, and some that are none but end as others do. */
    private static int[] noNumbers() {
        int[] far = {
            -1, -256, LEAST, LEAST | Rig.STATUS, MOST, 0x1000 | Rig.STATUS, 0x10000 | Rig.SCRATCH, -Rig.SCRATCH,
            0x1000 | Rig.TIME, 0xfffff000 | Rig.HTVAL, 0x1000 | Rig.VSCRATCH, 0x2000 | Rig.HSTATUS,
        };
        IntStream near = IntStream.range(0, 4096).filter(number -> !Rig.isNumber(number));
        return IntStream.concat(IntStream.of(far), near).toArray();
    }

    private void badControls() {
        says("BAD: there is none,");
        int[] none = noNumbers();
        for (int from = 0; from < none.length; from += 200) {
            HyperHost host = new HyperHost();
            for (int i = from; i < from + 200 && i < none.length; i++) {
                due("setControl(" + none[i] + ")", host.setControl(none[i], -1), -1);
                due("control(" + none[i] + ")", host.control(none[i]), 0);
            }
            asAtFirst("behind bad ones", host);
        }
        says("or it is one of the TIMEs.");
        HyperHost host = new HyperHost();
        host.run(5);
        for (int number : new int[] {Rig.TIME, Rig.TIME_UPPER}) {
            due("setControl(" + number + ", 0)", host.setControl(number, 0), -1);
            due("setControl(" + number + ", -1)", host.setControl(number, -1), -1);
        }
        due("TIME stays", host.count(2), 5);
        due("its upper bits stay", host.count(3), 0);
    }

    private void control() {
        says("What a control register tells, as in S;");
        for (int mode : MODES) {
            Rig rig = new Rig().control(Rig.HSTATUS, Rig.VTVM).control(Rig.HIDELEG, -1).control(Rig.HVIP, 4);
            rig.control(Rig.IP, 0).control(Rig.SCRATCH, 5).control(Rig.VSCRATCH, 6).control(Rig.ATP, 7).line(true);
            rig.run(3).place(0, mode);
            due("SCRATCH in " + mode, rig.told(Rig.SCRATCH), 5);
            due("VS SCRATCH in " + mode, rig.told(Rig.VSCRATCH), 6);
            due("ATP in " + mode, rig.told(Rig.ATP), 7);
            due("IP in " + mode, rig.told(Rig.IP), 0x200);
            due("VS IP in " + mode, rig.told(Rig.VIP), 2);
            due("HSTATUS in " + mode, rig.told(Rig.HSTATUS), Rig.VTVM);
            due("TIME in " + mode, rig.told(Rig.TIME), 3);
            due("its upper bits in " + mode, rig.told(Rig.TIME_UPPER), 0);
        }
        says("0, if there is none.");
        int[] none = noNumbers();
        for (int from = 0; from < none.length; from += 400) {
            HyperHost host = new HyperHost();
            for (int[] numbers : new int[][] {{Rig.HIDELEG}, Rig.S_NUMBERS, Rig.VS_NUMBERS, Rig.H_NUMBERS}) {
                for (int number : numbers) {
                    host.setControl(number, -1);
                }
            }
            for (int i = from; i < from + 400 && i < none.length; i++) {
                due("control(" + none[i] + ")", host.control(none[i]), 0);
            }
        }
    }

    private void place() {
        says("The PC and the mode (0 U, 1 S, 2 VU, 3 VS) become others: the mode before.");
        for (int from : MODES) {
            for (int to : MODES) {
                HyperHost host = new HyperHost();
                host.place(8, from);
                due("place from " + from + " to " + to, host.place(400, to), from);
                due("its PC", host.count(1), 400);
                due("its mode", host.count(0), to);
            }
        }
        HyperHost host = new HyperHost();
        for (int pc : new int[] {-4, 0, 4, MOST - 3, LEAST, 262140, 262144}) {
            due("place(" + pc + ")", host.place(pc, Rig.S), Rig.S);
            due("the PC " + pc, host.count(1), pc);
        }
        Rig rig = Rig.in(Rig.S).words(0x2000, Asm.add(5, 0, 3)).place(0x2000, Rig.U).run(1);
        due("the next step is done there", rig.x(5), 3);
        int[] calls = {8, Rig.NO_TRAP, 8, 10};
        for (int mode : MODES) {
            due("and in that mode", Rig.in(Rig.S).place(64, mode).step(Asm.ECALL).told(Rig.CAUSE), calls[mode]);
        }
    }

    private void isBadPlace(int[]... places) {
        for (int[] one : places) {
            HyperHost host = new HyperHost();
            host.place(64, Rig.VU);
            due("place(" + one[0] + ", " + one[1] + ")", host.place(one[0], one[1]), -1);
            due("the PC stays", host.count(1), 64);
            due("the mode stays", host.count(0), Rig.VU);
        }
    }

    private void badPlaces() {
        says("BAD: the PC is no multiple of 4,");
        isBadPlace(new int[][] {{1, 1}, {2, 1}, {3, 1}, {5, 0}, {6, 3}, {-1, 1}, {-2, 0}, {-3, 2}, {MOST, 1},
            {LEAST + 2, 1}});
        says("or there is no such mode.");
        isBadPlace(new int[][] {{0, 4}, {0, -1}, {4, 5}, {8, MOST}, {8, LEAST}, {8, 256}, {8, -4}, {1, 4}});
    }

    private void line() {
        says("The line goes on or off: whether it was on.");
        HyperHost host = new HyperHost();
        due("off at first", host.line(false), false);
        due("off to on", host.line(true), false);
        due("IP tells it", host.control(Rig.IP), 0x200);
        due("on to on", host.line(true), true);
        due("IP tells it", host.control(Rig.IP), 0x200);
        due("on to off", host.line(false), true);
        due("IP tells it", host.control(Rig.IP), 0);
        due("off to off", host.line(false), false);
        host.line(true);
        host.run(3);
        due("steps leave it on", host.line(true), true);
    }

    private void countsOfPlace() {
        says("0 the mode,");
        for (int mode : MODES) {
            due("count(0)", new Rig().place(4, mode).count(0), mode);
        }
        says("1 the PC,");
        due("count(1)", new Rig().place(-8, Rig.U).count(1), -8);
        due("count(1) behind a step", Rig.in(Rig.S).step(Asm.NOP).count(1), Rig.AT + 4);
        says("2 TIME, 3 its upper 32 bits,");
        Rig rig = Rig.in(Rig.S).run(0);
        due("count(2) behind no step", rig.count(2), 0);
        due("count(2) behind steps", rig.run(7).run(2000).count(2), 2007);
        due("count(3)", rig.count(3), 0);
        due("TIME", rig.told(Rig.TIME), 2007);
    }

    private void countsOfTraps() {
        says("4 traps to S, 5 traps to VS,");
        Rig rig = Rig.in(Rig.U).step(0);
        due("one to S", rig.count(4) * 10 + rig.count(5), 10);
        rig.control(Rig.HEDELEG, 4).place(64, Rig.VU).step(0).place(64, Rig.VS).step(0);
        due("two to VS", rig.count(4) * 10 + rig.count(5), 12);
        rig.place(64, Rig.S).step(0);
        due("one more to S", rig.count(4) * 10 + rig.count(5), 22);
        rig.place(64, Rig.S).step(Asm.NOP);
        due("no more", rig.count(4) * 10 + rig.count(5), 22);
        says("6 how many of all these were interrupts,");
        due("none", rig.count(6), 0);
        rig.control(Rig.IE, 2).control(Rig.IP, 2).place(64, Rig.U).run(1);
        due("one to S", rig.count(6) * 100 + rig.count(4) * 10 + rig.count(5), 132);
        rig.control(Rig.IP, 0).control(Rig.HIDELEG, 4).control(Rig.HIE, 4).control(Rig.HVIP, 4).place(64, Rig.VU)
            .run(1);
        due("one to VS", rig.count(6) * 100 + rig.count(4) * 10 + rig.count(5), 233);
    }

    private void countsOfFirmware() {
        says("7 bytes of the console,");
        Rig rig = Rig.in(Rig.S);
        due("none", rig.count(7), 0);
        due("one", rig.call(1, 0, 0).count(7), 1);
        due("two", rig.call(1, -1, 0).count(7), 2);
        says("8 whether it is OFF (1 or 0),");
        due("on", rig.count(8), 0);
        due("off", rig.call(8, 0, 0).count(8), 1);
        says("9 the ALARM, 10 its upper 32 bits.");
        rig = Rig.in(Rig.S);
        due("at first", rig.count(9), -1);
        due("its upper bits at first", rig.count(10), MOST);
        rig.call(0, -5, 0x12345678);
        due("count(9)", rig.count(9), -5);
        due("count(10)", rig.count(10), 0x12345678);
        says("10 its upper 32 bits. BAD: another number.");
        for (int what : new int[] {-1, 11, 12, -10, 256, LEAST, MOST}) {
            due("count(" + what + ")", rig.count(what), -1);
        }
    }

    private void console() {
        says("Byte i of the console, 0 .. 255.");
        Rig rig = Rig.in(Rig.S);
        int[] bytes = {65, 0, 255, -1, 0x1234, 128, 127, 256};
        for (int b : bytes) {
            rig.call(1, b, 0);
        }
        for (int i = 0; i < bytes.length; i++) {
            due("console(" + i + ")", rig.host().console(i), bytes[i] & 255);
        }
        says("BAD: there is none.");
        for (int i : new int[] {-1, bytes.length, bytes.length + 1, 4095, 4096, LEAST, MOST}) {
            due("console(" + i + ")", rig.host().console(i), -1);
        }
        due("console(0) of an empty one", new HyperHost().console(0), -1);
        due("console(-1) of an empty one", new HyperHost().console(-1), -1);
    }

    private void breaches() {
        says("THE THEOREM. How many fetches, loads and stores of all steps so far touched anything that is not memory "
            + "of the machine.");
        due("breaches() at first", new HyperHost().breaches(), 0);
        for (int address : new int[] {262144, -4, LEAST, MOST - 3}) {
            for (int mode : MODES) {
                Rig rig = Rig.in(mode).register(6, address).step(Asm.load(2, 5, 6, 0)).place(Rig.AT, mode);
                rig.step(Asm.store(2, 5, 6, 0)).place(address, mode).run(1);
                due("the traps of three outside", rig.count(4), 3);
                due("breaches() of three outside", rig.host().breaches(), 0);
            }
        }
        for (int number : new int[] {Rig.ATP, Rig.VATP, Rig.HGATP}) {
            for (int root : new int[] {64, 0x100000, 0x3ffffc}) {
                Rig rig = Rig.in(number == Rig.ATP ? Rig.S : Rig.VS).control(number, 1 << 31 | root).run(1);
                due("the trap of a root outside", rig.told(Rig.CAUSE), 1);
                due("breaches() of a root outside", rig.host().breaches(), 0);
            }
        }
        HyperHost host = new HyperHost();
        host.word(-4);
        host.word(262144);
        host.poke(262144, 1, 1, 1, 1, 1);
        host.sum(64, 1);
        due("breaches() of calls that are no steps", host.breaches(), 0);
    }
}
