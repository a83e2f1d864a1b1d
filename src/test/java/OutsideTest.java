/** Promises 1 to 11, 13 and 14: what is seen and set from outside, between the steps. */
public final class OutsideTest {
    private static final Checks CHECKS = new Checks();
    private static final int LEAST = Integer.MIN_VALUE;
    private static final int MOST = Integer.MAX_VALUE;

    public static void main(String[] args) {
        newObject();
        begin();
        poke();
        word();
        sum();
        registers();
        controls();
        place();
        line();
        count();
        console();
        CHECKS.finish();
    }

    private static void due(String what, long got, long want) {
        CHECKS.due(what, got, want);
    }

    private static void asAtFirst(String when, HyperHost host) {
        int[] counts = {1, 0, 0, 0, 0, 0, 0, 0, 0, -1, MOST};
        for (int what = 0; what < counts.length; what++) {
            due(when + " count(" + what + ")", host.count(what), counts[what]);
        }
        for (int n = 0; n < 32; n++) {
            due(when + " register(" + n + ")", host.register(n), 0);
        }
        for (int[] numbers : new int[][] {Rig.S_NUMBERS, Rig.VS_NUMBERS, Rig.H_NUMBERS, {Rig.TIME, Rig.TIME_UPPER}}) {
            for (int number : numbers) {
                due(when + " control(" + number + ")", host.control(number), 0);
            }
        }
        due(when + " console(0)", host.console(0), -1);
        due(when + " breaches()", host.breaches(), 0);
        int sum = 1;
        for (int i = 0; i < Rig.MEMORY / 4; i++) {
            sum *= 31;
        }
        due(when + " sum", host.sum(0, 64), sum);
        due(when + " line", host.line(false) ? 1 : 0, 0);
    }

    private static void newObject() {
        asAtFirst("new:", new HyperHost());
        HyperHost one = new HyperHost();
        HyperHost other = new HyperHost();
        one.poke(0, 1, 2, 3, 4, 5);
        one.setRegister(5, 7);
        one.setControl(Rig.SCRATCH, 9);
        due("another object's word", other.word(0), 0);
        due("another object's register", other.register(5), 0);
        due("another object's control", other.control(Rig.SCRATCH), 0);
    }

    private static void begin() {
        Rig rig = new Rig();
        rig.register(17, 1).register(10, 65).step(Asm.ECALL);
        rig.register(17, 0).register(10, 3).register(11, 0).step(Asm.ECALL);
        rig.control(Rig.HEDELEG, 4).place(64, Rig.VU).step(0).place(64, Rig.U).step(0);
        for (int[] numbers : new int[][] {Rig.S_NUMBERS, Rig.VS_NUMBERS, Rig.H_NUMBERS}) {
            for (int number : numbers) {
                rig.control(number, -1);
            }
        }
        for (int n = 0; n < 32; n++) {
            rig.register(n, n + 1);
        }
        rig.host.line(true);
        rig.host.run(5);
        rig.control(Rig.ATP, 0).register(17, 8).place(128, Rig.S).control(Rig.STATUS, 0).step(Asm.ECALL);
        due("it is off", rig.host.count(8), 1);
        rig.words(Rig.MEMORY - 20, 1, 2, 3, 4, 5).control(Rig.HTVAL, 9).control(Rig.HTINST, 9);
        rig.host.begin();
        asAtFirst("begun:", rig.host);
        due("it is on again", rig.host.run(3), 3);
        rig.host.begin();
        rig.host.begin();
        asAtFirst("begun twice:", rig.host);
    }

    private static void poke() {
        HyperHost host = new HyperHost();
        due("poke(8)", host.poke(8, 1, -2, 3, -4, 5), 0);
        int[] words = {0, 0, 1, -2, 3, -4, 5, 0};
        for (int i = 0; i < words.length; i++) {
            due("word(" + 4 * i + ") behind poke", host.word(4 * i), words[i]);
        }
        due("the last five words", host.poke(262124, 6, 7, 8, 9, 10), 0);
        due("the last word", host.word(262140), 10);
        due("over a frame's end", host.poke(4088, 21, 22, 23, 24, 25), 0);
        due("before the frame's end", host.word(4092), 22);
        due("behind the frame's end", host.word(4096), 23);
        int before = host.sum(0, 64);
        for (int address : new int[] {-4, -1, LEAST, LEAST + 4, 1, 2, 3, 262122, 262128, 262140, 262144, MOST, MOST - 3}) {
            due("poke(" + address + ")", host.poke(address, 1, 1, 1, 1, 1), -1);
        }
        due("bad pokes change nothing", host.sum(0, 64), before);
    }

    private static void word() {
        HyperHost host = new HyperHost();
        host.poke(0, 0x01020304, 5, 6, 7, 8);
        host.poke(262124, 1, 1, 1, 1, 77);
        due("word(0)", host.word(0), 0x01020304);
        due("word(262140)", host.word(262140), 77);
        for (int address : new int[] {1, 2, 3, -1, -4, LEAST, 262141, 262144, MOST, MOST - 3}) {
            due("word(" + address + ")", host.word(address), 0);
        }
        due("word() is no breach", host.breaches(), 0);
    }

    private static void sum() {
        HyperHost host = new HyperHost();
        host.poke(4096, 11, 12, 13, 14, 15);
        host.poke(3 * 4096 - 20, 1, 2, 3, 4, 5);
        int sum = 1;
        for (int address = 4096; address < 3 * 4096; address += 4) {
            sum = 31 * sum + host.word(address);
        }
        due("sum(1, 2)", host.sum(1, 2), sum);
        due("sum of an empty frame", host.sum(0, 1), -1174962175);
        due("sum(63, 1)", host.sum(63, 1), host.sum(0, 1));
        due("sum(0, 1) has not what is behind", host.sum(0, 1), host.sum(5, 1));
        int[][] bad = {{-1, 1}, {LEAST, 1}, {0, 0}, {0, -1}, {0, LEAST}, {64, 1}, {63, 2}, {0, 65}, {1, 64}, {MOST, MOST},
            {MOST, 1}, {1, MOST}, {64, 0}, {-1, 65}};
        for (int[] one : bad) {
            due("sum(" + one[0] + ", " + one[1] + ")", host.sum(one[0], one[1]), -1);
        }
    }

    private static void registers() {
        HyperHost host = new HyperHost();
        for (int n = 0; n < 32; n++) {
            due("setRegister(" + n + ")", host.setRegister(n, 100 + n), 0);
        }
        for (int n = 0; n < 32; n++) {
            due("register(" + n + ")", host.register(n), n == 0 ? 0 : 100 + n);
            due("what " + n + " was", host.setRegister(n, -n), n == 0 ? 0 : 100 + n);
        }
        for (int n : new int[] {-1, 32, LEAST, MOST}) {
            due("setRegister(" + n + ")", host.setRegister(n, 5), 0);
            due("register(" + n + ")", host.register(n), 0);
        }
        for (int n = 0; n < 32; n++) {
            due("register(" + n + ") at last", host.register(n), -n);
        }
    }

    private static void controls() {
        int[][] keeps = {
            {Rig.STATUS, 0xc0122}, {Rig.IE, 0x222}, {Rig.TVEC, ~2}, {Rig.SCRATCH, -1}, {Rig.EPC, ~3}, {Rig.CAUSE, -1},
            {Rig.TVAL, -1}, {Rig.IP, 2}, {Rig.ATP, 0x803fffff}, {Rig.VSTATUS, 0xc0122}, {Rig.VTVEC, ~2},
            {Rig.VSCRATCH, -1}, {Rig.VEPC, ~3}, {Rig.VCAUSE, -1}, {Rig.VTVAL, -1}, {Rig.VATP, 0x803fffff},
            {Rig.HSTATUS, 0x7003c0}, {Rig.HEDELEG, 0xb1ff}, {Rig.HIDELEG, 0x444}, {Rig.HIE, 0x444}, {Rig.HTVAL, -1},
            {Rig.HVIP, 0x444}, {Rig.HIP, 4}, {Rig.HTINST, -1}, {Rig.HGATP, 0x803ffffc},
        };
        for (int[] row : keeps) {
            HyperHost host = new HyperHost();
            due("setControl(" + row[0] + ")", host.setControl(row[0], -1), 0);
            due("all bits of " + row[0], host.control(row[0]), row[1]);
            host.setControl(row[0], 0x5a5a5a5a);
            due("some bits of " + row[0], host.control(row[0]), 0x5a5a5a5a & row[1]);
            host.setControl(row[0], 0);
            due("no bits of " + row[0], host.control(row[0]), 0);
        }
        HyperHost host = new HyperHost();
        for (int number : new int[] {Rig.TIME, Rig.TIME_UPPER, 0, 0x101, 0x145, 0x181, 0x201, 0x245, 0x281, 0x601, 0x605,
            0x681, 0xc00, 0xc80, -1, LEAST, MOST, 0x1100, 0x10100, 0x300, 0x400, 0x500, 0x700, 0x640}) {
            due("setControl(" + number + ")", host.setControl(number, -1), -1);
            due("control(" + number + ")", host.control(number), 0);
        }
        host.place(0, Rig.VS);
        host.setControl(Rig.SCRATCH, 5);
        due("from VS, too, it is the S one", host.control(Rig.SCRATCH), 5);
        due("and not the VS one", host.control(Rig.VSCRATCH), 0);
        interruptControls();
    }

    private static void interruptControls() {
        HyperHost host = new HyperHost();
        host.setControl(Rig.HVIP, 0x444);
        due("HIP tells HVIP", host.control(Rig.HIP), 0x444);
        due("VS IP tells nothing that is not passed", host.control(Rig.VIP), 0);
        host.setControl(Rig.HIDELEG, 0x404);
        due("VS IP one place lower", host.control(Rig.VIP), 0x202);
        host.setControl(Rig.VIP, 0);
        due("VS IP puts bit 1", host.control(Rig.HVIP), 0x440);
        host.setControl(Rig.VIP, -1);
        due("VS IP puts only bit 1", host.control(Rig.HVIP), 0x444);
        host.setControl(Rig.HIP, 0);
        due("HIP puts bit 2", host.control(Rig.HVIP), 0x440);
        host.setControl(Rig.HVIP, 0);
        host.setControl(Rig.HIP, -1);
        due("HIP puts only bit 2", host.control(Rig.HVIP), 4);
        host.setControl(Rig.HIDELEG, 0x440);
        host.setControl(Rig.VIP, 0);
        due("VS IP puts nothing that is not passed", host.control(Rig.HVIP), 4);
        host.setControl(Rig.HIE, 4);
        host.setControl(Rig.VIE, -1);
        due("VS IE puts what is passed", host.control(Rig.HIE), 0x444);
        due("VS IE tells what is passed", host.control(Rig.VIE), 0x220);
        host.setControl(Rig.VIE, 0x20);
        due("VS IE clears what is passed", host.control(Rig.HIE), 0x44);
        host.setControl(Rig.IP, 2);
        host.line(true);
        due("IP with the line", host.control(Rig.IP), 0x202);
        host.setControl(Rig.IP, 0);
        due("IP keeps the line", host.control(Rig.IP), 0x200);
        due("HIE is not in IE", host.control(Rig.IE), 0);
    }

    private static void place() {
        HyperHost host = new HyperHost();
        due("place(400, VS)", host.place(400, Rig.VS), Rig.S);
        due("the PC", host.count(1), 400);
        due("the mode", host.count(0), Rig.VS);
        due("place(-4, U)", host.place(-4, Rig.U), Rig.VS);
        due("the PC", host.count(1), -4);
        due("place(0, VU)", host.place(0, Rig.VU), Rig.U);
        due("place(LEAST, S)", host.place(LEAST, Rig.S), Rig.VU);
        int[][] bad = {{1, 1}, {2, 1}, {3, 1}, {-1, 1}, {-2, 0}, {MOST, 1}, {0, 4}, {0, -1}, {0, MOST}, {0, LEAST}};
        for (int[] one : bad) {
            due("place(" + one[0] + ", " + one[1] + ")", host.place(one[0], one[1]), -1);
        }
        due("the PC stays", host.count(1), LEAST);
        due("the mode stays", host.count(0), Rig.S);
    }

    private static void line() {
        HyperHost host = new HyperHost();
        due("it was off", host.line(true) ? 1 : 0, 0);
        due("it was on", host.line(true) ? 1 : 0, 1);
        due("IP tells it", host.control(Rig.IP), 0x200);
        due("it was on still", host.line(false) ? 1 : 0, 1);
        due("it was off again", host.line(false) ? 1 : 0, 0);
        due("IP tells it", host.control(Rig.IP), 0);
    }

    private static void count() {
        Rig rig = new Rig();
        for (int what : new int[] {-1, 11, LEAST, MOST}) {
            due("count(" + what + ")", rig.host.count(what), -1);
        }
        rig.register(17, 0).register(10, -5).register(11, 0x12345678).step(Asm.ECALL);
        rig.register(17, 1).step(Asm.ECALL).step(Asm.ECALL);
        rig.control(Rig.TVEC, 256).control(Rig.VTVEC, 512).control(Rig.HEDELEG, 4).words(256, Asm.NOP);
        rig.place(1024, Rig.VS).step(0);
        rig.place(1024, Rig.U).step(0).place(1024, Rig.U).step(0);
        rig.control(Rig.IE, 2).control(Rig.IP, 2).place(1024, Rig.U).step(0);
        int[] due = {Rig.S, 256, 7, 0, 3, 1, 1, 2, 0, -5, 0x12345678};
        for (int what = 0; what < due.length; what++) {
            due("count(" + what + ") behind some steps", rig.host.count(what), due[what]);
        }
        rig.control(Rig.IP, 0).register(17, 8).place(0, Rig.S).step(Asm.ECALL);
        due("count(8) when it is off", rig.host.count(8), 1);
    }

    private static void console() {
        Rig rig = new Rig().register(17, 1);
        int[] bytes = {65, 0, 255, -1, 0x1234, 128};
        for (int i = 0; i < bytes.length; i++) {
            due("console(" + i + ") before", rig.host.console(i), -1);
            rig.register(10, bytes[i]).step(Asm.ECALL);
            due("x10", rig.get(10), 0);
            due("console(" + i + ")", rig.host.console(i), bytes[i] & 255);
        }
        for (int i : new int[] {-1, 6, 4095, 4096, LEAST, MOST}) {
            due("console(" + i + ")", rig.host.console(i), -1);
        }
    }
}
