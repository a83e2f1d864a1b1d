/** Promises 12 and 15: both stages of translation, their exceptions, and the loads and stores of f 4. */
public final class TranslationTest {
    private static final Checks CHECKS = new Checks();

    private static final int V = 1;
    private static final int R = 2;
    private static final int W = 4;
    private static final int X = 8;
    private static final int USER = 16;
    private static final int A = 64;
    private static final int D = 128;
    private static final int ALL = V | R | W | X | A | D;

    private static final int SUM = 1 << 18;
    private static final int MXR = 1 << 19;
    private static final int SPVP = 1 << 8;
    private static final int HU = 1 << 9;
    private static final int GVA = 1 << 6;

    private static final int FINE = -1;
    private static final int TVEC = 512;

    // Code stands in frame 1, which every table shows as page 1; what is touched is page 5, frame 7.
    private static final int CODE = 4096;
    private static final int PAGE = 5 * 4096;
    private static final int FRAME = 7;
    private static final int SEEN = 0x8badf00d;

    private static final int S_ROOT = 8;
    private static final int S_TABLE = 9;
    private static final int VS_ROOT = 12;
    private static final int VS_TABLE = 13;
    private static final int H_ROOT = 16;
    private static final int H_TABLE = 20;
    private static final int ON = 1 << 31;

    public static void main(String[] args) {
        oneStage();
        entries();
        largePages();
        places();
        firstStageOfGuests();
        secondStage();
        entriesByTheSecondStage();
        bothStages();
        wideAddresses();
        guestLoads();
        guestForms();
        guestExceptions();
        CHECKS.finish();
    }

    private static void due(String what, long got, long want) {
        CHECKS.due(what, got, want);
    }

    private static int entry(int frame, int flags) {
        return frame << 10 | flags;
    }

    /** The S tables on, with code that S (or U) may fetch, and one leaf for the page that is touched. */
    private static Rig oneStage(int mode, int leaf) {
        Rig rig = new Rig().control(Rig.TVEC, TVEC).control(Rig.CAUSE, FINE);
        rig.words(FRAME * 4096, SEEN).words(S_ROOT * 4096, entry(S_TABLE, V));
        rig.words(S_TABLE * 4096 + 4, entry(1, ALL | (mode == Rig.U ? USER : 0))).words(S_TABLE * 4096 + 20, leaf);
        return rig.control(Rig.ATP, ON | S_ROOT).register(6, PAGE).register(7, 0x12345678).place(CODE, mode);
    }

    /** Both tables of a guest; a root of 0 leaves that stage off. */
    private static Rig guest(int mode, int first, int second) {
        Rig rig = new Rig().control(Rig.TVEC, TVEC).control(Rig.CAUSE, FINE);
        rig.words(FRAME * 4096, SEEN).words(VS_ROOT * 4096, entry(VS_TABLE, V)).words(H_ROOT * 4096, entry(H_TABLE, V));
        rig.words(VS_TABLE * 4096 + 4, entry(1, ALL | (mode == Rig.VU ? USER : 0)));
        rig.words(H_TABLE * 4096 + 4, entry(1, ALL | USER));
        for (int frame = VS_ROOT; frame <= VS_TABLE; frame++) {
            rig.words(H_TABLE * 4096 + 4 * frame, entry(frame, V | R | A | USER));
        }
        if (first != 0) {
            rig.words(VS_TABLE * 4096 + 20, first).control(Rig.VATP, ON | VS_ROOT);
        }
        if (second != 0) {
            rig.words(H_TABLE * 4096 + 4 * (first == 0 ? 5 : 6), second).control(Rig.HGATP, ON | H_ROOT);
        }
        return rig.register(6, PAGE).register(7, 0x12345678).place(CODE, mode);
    }

    private static void loads(String what, Rig rig, int cause) {
        rig.words(CODE, Asm.load(2, 5, 6, 0)).host.run(1);
        outcome("load, " + what, rig, cause);
        due("x5, " + what, rig.get(5), cause == FINE ? SEEN : 0);
    }

    private static void stores(String what, Rig rig, int cause) {
        rig.words(CODE, Asm.store(2, 7, 6, 0)).host.run(1);
        outcome("store, " + what, rig, cause);
        due("word, " + what, rig.host.word(FRAME * 4096), cause == FINE ? 0x12345678 : SEEN);
    }

    private static void fetches(String what, Rig rig, int cause) {
        rig.words(FRAME * 4096, Asm.add(5, 0, 9)).place(PAGE, rig.mode()).host.run(1);
        outcome("fetch, " + what, rig, cause);
        due("x5, " + what, rig.get(5), cause == FINE ? 9 : 0);
    }

    private static void outcome(String what, Rig rig, int cause) {
        due("CAUSE, " + what, rig.told(Rig.CAUSE), cause);
        due("breaches, " + what, rig.host.breaches(), 0);
        if (cause != FINE) {
            due("TVAL, " + what, rig.told(Rig.TVAL), rig.get(6));
            due("mode, " + what, rig.mode(), Rig.S);
            due("PC, " + what, rig.pc(), TVEC);
        }
    }

    private static int leaf(int flags) {
        return entry(FRAME, flags);
    }

    private static void oneStage() {
        loads("all", oneStage(Rig.S, leaf(ALL)), FINE);
        stores("all", oneStage(Rig.S, leaf(ALL)), FINE);
        fetches("all", oneStage(Rig.S, leaf(ALL)), FINE);
        loads("R alone", oneStage(Rig.S, leaf(V | R | A)), FINE);
        stores("W alone of its kind", oneStage(Rig.S, leaf(V | R | W | A | D)), FINE);
        fetches("X alone", oneStage(Rig.S, leaf(V | X | A)), FINE);
        loads("without R", oneStage(Rig.S, leaf(V | X | A)), 13);
        loads("without R, MXR", oneStage(Rig.S, leaf(V | X | A)).control(Rig.STATUS, MXR), FINE);
        loads("without R, MXR of VS", oneStage(Rig.S, leaf(V | X | A)).control(Rig.VSTATUS, MXR), 13);
        stores("without W", oneStage(Rig.S, leaf(ALL & ~W)), 15);
        stores("without D", oneStage(Rig.S, leaf(ALL & ~D)), 15);
        loads("without D", oneStage(Rig.S, leaf(ALL & ~D)), FINE);
        fetches("without X", oneStage(Rig.S, leaf(ALL & ~X)), 12);
        fetches("without X, MXR", oneStage(Rig.S, leaf(ALL & ~X)).control(Rig.STATUS, MXR), 12);
        loads("without A", oneStage(Rig.S, leaf(ALL & ~A)), 13);
        stores("without A", oneStage(Rig.S, leaf(ALL & ~A)), 15);
        fetches("without A", oneStage(Rig.S, leaf(ALL & ~A)), 12);
        loads("U's", oneStage(Rig.S, leaf(ALL | USER)), 13);
        loads("U's, SUM", oneStage(Rig.S, leaf(ALL | USER)).control(Rig.STATUS, SUM), FINE);
        stores("U's, SUM", oneStage(Rig.S, leaf(ALL | USER)).control(Rig.STATUS, SUM), FINE);
        loads("S's, SUM", oneStage(Rig.S, leaf(ALL)).control(Rig.STATUS, SUM), FINE);
        loads("U's, SUM of VS", oneStage(Rig.S, leaf(ALL | USER)).control(Rig.VSTATUS, SUM), 13);
        fetches("U's, SUM", oneStage(Rig.S, leaf(ALL | USER)).control(Rig.STATUS, SUM), 12);
        loads("by U", oneStage(Rig.U, leaf(ALL | USER)), FINE);
        stores("by U", oneStage(Rig.U, leaf(ALL | USER)), FINE);
        fetches("by U", oneStage(Rig.U, leaf(ALL | USER)), FINE);
        loads("S's by U", oneStage(Rig.U, leaf(ALL)), 13);
        stores("S's by U, SUM", oneStage(Rig.U, leaf(ALL)).control(Rig.STATUS, SUM), 15);
        fetches("S's by U", oneStage(Rig.U, leaf(ALL)), 12);
        loads("without R by U, MXR", oneStage(Rig.U, leaf(V | X | A | USER)).control(Rig.STATUS, MXR), FINE);
        loads("with what is not looked at", oneStage(Rig.S, leaf(ALL | 0x320)), FINE);
        loads("by the guest's tables never", oneStage(Rig.S, leaf(ALL)).control(Rig.HGATP, ON | 63).control(Rig.VATP, ON), FINE);
    }

    private static void entries() {
        loads("no V", oneStage(Rig.S, leaf(ALL & ~V)), 13);
        loads("W without R", oneStage(Rig.S, leaf(V | W | X | A | D)), 13);
        stores("W without R", oneStage(Rig.S, leaf(V | W | A | D)), 15);
        loads("W without R, MXR", oneStage(Rig.S, leaf(V | W | X | A | D)).control(Rig.STATUS, MXR), 13);
        loads("the second is no leaf", oneStage(Rig.S, leaf(V)), 13);
        loads("there is no third", oneStage(Rig.S, leaf(V)).words(FRAME * 4096 + 20, leaf(ALL)), 13);
        for (int flag : new int[] {USER, A, D}) {
            Rig rig = oneStage(Rig.S, leaf(ALL));
            rig.words(S_ROOT * 4096 + 4, entry(S_TABLE, V | flag)).register(6, PAGE + 0x400000);
            loads("the first has bit " + flag, rig, 13);
        }
        Rig rig = oneStage(Rig.S, leaf(ALL)).words(S_ROOT * 4096 + 4, entry(S_TABLE, V | 0x320));
        loads("the first has bits 5, 8, 9", rig.register(6, PAGE + 0x400000), FINE);
        rig = oneStage(Rig.S, leaf(ALL)).words(S_ROOT * 4096 + 4, entry(S_TABLE, 0)).register(6, PAGE + 0x400000);
        loads("the first has no V", rig, 13);
        rig = oneStage(Rig.S, leaf(ALL)).words(S_ROOT * 4096 + 4092, entry(S_TABLE, V)).register(6, PAGE + 0xffc00000);
        loads("the last of the first table", rig, FINE);
        rig = oneStage(Rig.S, leaf(ALL)).words(S_TABLE * 4096 + 4092, entry(FRAME, ALL)).register(6, 0x3ff000);
        loads("the last of the second table", rig, FINE);
        rig = oneStage(Rig.S, leaf(ALL)).words(FRAME * 4096 + 4092, SEEN).words(FRAME * 4096, 1).register(6, PAGE + 4092);
        loads("the last of the page", rig, FINE);
        rig = oneStage(Rig.S, leaf(ALL)).control(Rig.ATP, S_ROOT).words(PAGE, SEEN).words(FRAME * 4096, 1);
        loads("ATP off", rig, FINE);
    }

    private static void largePages() {
        Rig rig = oneStage(Rig.S, 0).words(S_ROOT * 4096 + 8, entry(0, ALL)).register(6, 0x800000 + FRAME * 4096);
        loads("a large page", rig, FINE);
        rig = oneStage(Rig.S, 0).words(S_ROOT * 4096 + 8, entry(0, ALL)).register(6, 0x800000 + Rig.MEMORY);
        loads("a large page's end", rig, 5);
        for (int bit = 10; bit < 20; bit++) {
            rig = oneStage(Rig.S, 0).words(S_ROOT * 4096 + 8, 1 << bit | ALL).register(6, 0x800000 + FRAME * 4096);
            loads("a large page with bit " + bit, rig, 13);
        }
        for (int bit = 20; bit < 32; bit++) {
            rig = oneStage(Rig.S, 0).words(S_ROOT * 4096 + 8, 1 << bit | ALL).register(6, 0x800000 + FRAME * 4096);
            stores("a large page with bit " + bit, rig, 7);
        }
        rig = oneStage(Rig.S, 0).words(S_ROOT * 4096 + 8, entry(0, ALL & ~W)).register(6, 0x800000 + FRAME * 4096);
        stores("a large page without W", rig, 15);
    }

    private static void places() {
        loads("a result outside", oneStage(Rig.S, entry(64, ALL)), 5);
        stores("a result outside", oneStage(Rig.S, entry(64, ALL)), 7);
        fetches("a result outside", oneStage(Rig.S, entry(0x3fffff, ALL)), 1);
        loads("a result far outside", oneStage(Rig.S, entry(0x100000 + FRAME, ALL)), 5);
        loads("outside, but not allowed", oneStage(Rig.S, entry(64, ALL & ~A)), 13);
        for (int table : new int[] {64, 0x100000 + S_TABLE, 0x3fffff}) {
            Rig rig = oneStage(Rig.S, leaf(ALL)).words(S_ROOT * 4096 + 4, entry(table, V)).register(6, PAGE + 0x400000);
            loads("a table outside " + table, rig, 5);
        }
        Rig rig = oneStage(Rig.S, leaf(ALL)).control(Rig.ATP, ON | 64).register(6, CODE);
        rig.host.run(1);
        outcome("a root outside", rig, 1);
        rig = oneStage(Rig.S, leaf(ALL)).control(Rig.ATP, ON | 0x100000 + S_ROOT).register(6, CODE);
        rig.host.run(1);
        outcome("a root far outside", rig, 1);
        rig = oneStage(Rig.S, entry(63, ALL)).words(63 * 4096 + 4092, SEEN).register(6, PAGE + 4092);
        loads("the last word of memory", rig, FINE);
        rig = oneStage(Rig.S, leaf(ALL)).register(6, PAGE + 2).words(CODE, Asm.load(2, 5, 6, 0));
        rig.host.run(1);
        outcome("misaligned before the walk", rig, 4);
    }

    private static void firstStageOfGuests() {
        loads("off in VS", guest(Rig.VS, 0, 0).words(PAGE, SEEN), FINE);
        loads("off in VU", guest(Rig.VU, 0, 0).words(PAGE, SEEN), FINE);
        loads("VS", guest(Rig.VS, leaf(ALL), 0), FINE);
        stores("VS", guest(Rig.VS, leaf(ALL), 0), FINE);
        fetches("VS", guest(Rig.VS, leaf(ALL), 0), FINE);
        loads("U's by VS", guest(Rig.VS, leaf(ALL | USER), 0), 13);
        loads("U's by VS, SUM of S", guest(Rig.VS, leaf(ALL | USER), 0).control(Rig.STATUS, SUM), 13);
        stores("U's by VS, SUM", guest(Rig.VS, leaf(ALL | USER), 0).control(Rig.VSTATUS, SUM), FINE);
        fetches("U's by VS, SUM", guest(Rig.VS, leaf(ALL | USER), 0).control(Rig.VSTATUS, SUM), 12);
        loads("VU", guest(Rig.VU, leaf(ALL | USER), 0), FINE);
        stores("S's by VU", guest(Rig.VU, leaf(ALL), 0).control(Rig.VSTATUS, SUM), 15);
        loads("X in VS", guest(Rig.VS, leaf(V | X | A), 0), 13);
        loads("X in VS, MXR of S", guest(Rig.VS, leaf(V | X | A), 0).control(Rig.STATUS, MXR), FINE);
        loads("X in VS, MXR of VS", guest(Rig.VS, leaf(V | X | A), 0).control(Rig.VSTATUS, MXR), FINE);
        loads("outside", guest(Rig.VS, entry(64, ALL), 0), 5);
        loads("there is no third in VS", guest(Rig.VS, leaf(V), 0).words(FRAME * 4096 + 20, leaf(ALL)), 13);
        loads("by the S tables never", guest(Rig.VS, leaf(ALL), 0).control(Rig.ATP, ON | 63), FINE);
    }

    private static void secondFault(String what, Rig rig, long address, boolean atEntry) {
        due("HTVAL, " + what, rig.told(Rig.HTVAL), (int) (address / 4));
        due("HTINST, " + what, rig.told(Rig.HTINST), atEntry ? 0x2000 : 0);
        due("GVA, " + what, rig.told(Rig.HSTATUS) & GVA, GVA);
    }

    private static void secondStage() {
        for (int mode : new int[] {Rig.VU, Rig.VS}) {
            loads("second alone", guest(mode, 0, leaf(ALL | USER)), FINE);
            stores("second alone", guest(mode, 0, leaf(ALL | USER)), FINE);
            fetches("second alone", guest(mode, 0, leaf(ALL | USER)), FINE);
            Rig rig = guest(mode, 0, leaf(ALL)).register(6, PAGE + 12);
            loads("second without U", rig, 21);
            secondFault("second without U", rig, PAGE + 12, false);
            rig = guest(mode, 0, leaf(ALL & ~D | USER));
            stores("second without D", rig, 23);
            secondFault("second without D", rig, PAGE, false);
            rig = guest(mode, 0, leaf(ALL & ~X | USER));
            fetches("second without X", rig, 20);
            secondFault("second without X", rig, PAGE, false);
        }
        loads("there is no third, second", guest(Rig.VS, 0, leaf(V)).words(FRAME * 4096 + 20, leaf(ALL | USER)), 21);
        stores("second without W", guest(Rig.VS, 0, leaf(ALL & ~W | USER)), 23);
        loads("second without A", guest(Rig.VS, 0, leaf(ALL & ~A | USER)), 21);
        loads("second, SUM does nothing", guest(Rig.VS, 0, leaf(ALL)).control(Rig.STATUS, SUM).control(Rig.VSTATUS, SUM), 21);
        loads("second, X", guest(Rig.VS, 0, leaf(V | X | A | USER)), 21);
        loads("second, X, MXR of VS", guest(Rig.VS, 0, leaf(V | X | A | USER)).control(Rig.VSTATUS, MXR), 21);
        loads("second, X, MXR of S", guest(Rig.VS, 0, leaf(V | X | A | USER)).control(Rig.STATUS, MXR), FINE);
        Rig rig = guest(Rig.VS, 0, entry(64, ALL | USER));
        loads("second, outside", rig, 5);
        due("HTVAL outside", rig.told(Rig.HTVAL), 0);
        due("GVA outside", rig.told(Rig.HSTATUS) & GVA, GVA);
        rig = guest(Rig.VS, 0, leaf(ALL | USER)).words(H_ROOT * 4096 + 4, entry(64, V)).register(6, 0x400000);
        stores("second, its table outside", rig, 7);
        rig = guest(Rig.VS, 0, leaf(ALL | USER)).words(H_ROOT * 4096 + 4, entry(0, ALL | USER));
        loads("second, a large page", rig.register(6, 0x400000 + FRAME * 4096), FINE);
        rig = guest(Rig.VS, 0, leaf(ALL | USER)).register(6, PAGE + 2).words(CODE, Asm.store(1, 7, 6, 1));
        rig.register(6, PAGE + 2).host.run(1);
        due("misaligned is not the second stage's", rig.told(Rig.CAUSE), 6);
        due("HTVAL of misaligned", rig.told(Rig.HTVAL), 0);
        due("GVA of misaligned", rig.told(Rig.HSTATUS) & GVA, GVA);
    }

    private static void entriesByTheSecondStage() {
        int[] bad = {entry(VS_TABLE, V | R | A), entry(VS_TABLE, V | R | USER), entry(VS_TABLE, V | X | A | USER), 0};
        for (int leaf : bad) {
            // The code's own entries stand there, too, so that the fetch is the first to come to it.
            Rig rig = guest(Rig.VS, entry(6, ALL), leaf(ALL | USER)).words(H_TABLE * 4096 + 4 * VS_TABLE, leaf);
            rig.control(Rig.STATUS, MXR).control(Rig.VSTATUS, MXR).register(6, CODE).host.run(1);
            outcome("an entry's place", rig, 20);
            secondFault("an entry's place", rig, VS_TABLE * 4096 + 4, true);
        }
        int far = 0x400000;
        Rig rig = guest(Rig.VS, entry(6, ALL), leaf(ALL | USER)).words(VS_ROOT * 4096 + 4, entry(30, V)).register(6, PAGE + far);
        loads("a second entry's place", rig, 21);
        secondFault("a second entry's place", rig, 30 * 4096 + 20, true);
        rig = guest(Rig.VS, entry(6, ALL), leaf(ALL | USER)).words(VS_ROOT * 4096 + 4, entry(30, V)).register(6, PAGE + far);
        stores("a second entry's place", rig, 23);
        secondFault("a second entry's place", rig, 30 * 4096 + 20, true);
        rig = guest(Rig.VS, entry(6, ALL), leaf(ALL | USER)).control(Rig.VATP, ON | 40).register(6, CODE);
        rig.host.run(1);
        outcome("a first entry's place", rig, 20);
        secondFault("a first entry's place", rig, 40 * 4096, true);
        rig = guest(Rig.VS, entry(6, ALL), leaf(ALL | USER)).words(H_TABLE * 4096 + 120, entry(64, ALL | USER));
        rig.words(VS_ROOT * 4096 + 4, entry(30, V)).register(6, PAGE + far);
        stores("an entry's place outside", rig, 7);
        due("HTVAL of an entry's place outside", rig.told(Rig.HTVAL), 0);
        due("HTINST of an entry's place outside", rig.told(Rig.HTINST), 0);
        rig = guest(Rig.VS, leaf(ALL), 0).control(Rig.VATP, ON | 64).register(6, CODE);
        rig.host.run(1);
        outcome("a root outside without the second stage", rig, 1);
    }

    private static void bothStages() {
        int second = leaf(ALL | USER);
        loads("both in VS", guest(Rig.VS, entry(6, ALL), second), FINE);
        stores("both in VS", guest(Rig.VS, entry(6, ALL), second), FINE);
        fetches("both in VS", guest(Rig.VS, entry(6, ALL), second), FINE);
        loads("both in VU", guest(Rig.VU, entry(6, ALL | USER), second), FINE);
        Rig rig = guest(Rig.VS, entry(6, ALL & ~R & ~W), leaf(V | A));
        loads("the first stage's fault is first", rig, 13);
        due("HTVAL of the first stage's", rig.told(Rig.HTVAL), 0);
        due("HTINST of the first stage's", rig.told(Rig.HTINST), 0);
        due("GVA of the first stage's", rig.told(Rig.HSTATUS) & GVA, GVA);
        rig = guest(Rig.VS, entry(6, ALL), leaf(ALL)).register(6, PAGE + 0x124);
        stores("the second stage's fault", rig, 23);
        secondFault("the second stage's fault", rig, 6 * 4096 + 0x124, false);
        loads("X first, MXR of VS", guest(Rig.VS, entry(6, V | X | A), second).control(Rig.VSTATUS, MXR), FINE);
        rig = guest(Rig.VS, entry(6, V | X | A), leaf(V | X | A | USER)).control(Rig.VSTATUS, MXR);
        loads("X twice, MXR of VS", rig, 21);
        rig = guest(Rig.VS, entry(6, V | X | A), leaf(V | X | A | USER)).control(Rig.STATUS, MXR);
        loads("X twice, MXR of S", rig, FINE);
        // A delegated fault of the first stage goes down; the second stage's never does.
        rig = guest(Rig.VS, entry(6, V | X | A), second).control(Rig.HEDELEG, -1).control(Rig.VTVEC, CODE + 64);
        rig.words(CODE, Asm.load(2, 5, 6, 0)).host.run(1);
        due("down: mode", rig.mode(), Rig.VS);
        due("down: VS CAUSE", rig.told(Rig.VCAUSE), 13);
        due("down: VS TVAL", rig.told(Rig.VTVAL), PAGE);
        loads("not down", guest(Rig.VS, entry(6, ALL), leaf(ALL)).control(Rig.HEDELEG, -1), 21);
    }

    private static void wideAddresses() {
        // The first stage's results have 34 bits; the second stage's first table has 4,096 entries.
        long wide = 0x3ffc00000L + 6 * 4096;
        int first = (int) (wide >> 2) | ALL;
        Rig rig = guest(Rig.VS, first, leaf(ALL | USER)).words(H_ROOT * 4096 + 4 * 4095, entry(H_TABLE, V));
        loads("34 bits", rig, FINE);
        rig = guest(Rig.VS, first, leaf(ALL | USER)).register(6, PAGE + 0x44);
        loads("34 bits, no entry", rig, 21);
        secondFault("34 bits, no entry", rig, wide + 0x44, false);
        rig = guest(Rig.VS, first, 0);
        stores("34 bits without the second stage", rig, 7);
        rig = guest(Rig.VS, entry(6, ALL), leaf(ALL | USER)).words(VS_ROOT * 4096 + 4, entry(0x3fffff, V));
        loads("an entry of 34 bits", rig.register(6, 0x7ff000), 21);
        secondFault("an entry of 34 bits", rig, 0x3ffffffffL / 4096 * 4096 + 4092, true);
        rig = guest(Rig.VS, 0, leaf(ALL | USER)).register(6, 0xfffff004);
        loads("an address is without sign", rig, 21);
        secondFault("an address is without sign", rig, 0xfffff004L, false);
        rig = guest(Rig.VS, 0, leaf(ALL | USER)).control(Rig.HGATP, ON | H_ROOT | 3);
        loads("the root's lowest two bits are 0", rig, FINE);
    }

    private static Rig guestLoad(int from, int hstatus, int first, int second) {
        int as = (hstatus & SPVP) != 0 ? Rig.VS : Rig.VU;
        return guest(as, first, second).control(Rig.HSTATUS, hstatus).place(CODE, from);
    }

    private static void guestOutcome(String what, Rig rig, int word, int cause) {
        rig.words(CODE, word).host.run(1);
        outcome(what, rig, cause);
        if (cause != FINE) {
            due("GVA, " + what, rig.told(Rig.HSTATUS) & GVA, GVA);
            due("SPV, " + what, rig.told(Rig.HSTATUS) & 1 << 7, 0);
            due("EPC, " + what, rig.told(Rig.EPC), CODE);
        } else {
            due("PC, " + what, rig.pc(), CODE + 4);
        }
    }

    private static void guestLoads() {
        int load = Asm.guestLoad(52, 0, 5, 6);
        int execute = Asm.guestLoad(52, 3, 5, 6);
        int store = Asm.guestStore(53, 7, 6);
        int second = leaf(ALL | USER);
        Rig rig = guestLoad(Rig.S, SPVP, entry(6, ALL), second);
        guestOutcome("as VS", rig, load, FINE);
        due("its x5", rig.get(5), SEEN);
        rig = guestLoad(Rig.S, 0, entry(6, ALL | USER), second);
        guestOutcome("as VU", rig, store, FINE);
        due("its word", rig.host.word(FRAME * 4096), 0x12345678);
        guestOutcome("from U", guestLoad(Rig.U, HU | SPVP, entry(6, ALL), second), load, FINE);
        guestOutcome("S's as VU", guestLoad(Rig.S, 0, entry(6, ALL), second), load, 13);
        guestOutcome("U's as VS", guestLoad(Rig.S, SPVP, entry(6, ALL | USER), second), store, 15);
        rig = guestLoad(Rig.S, SPVP, entry(6, ALL | USER), second).control(Rig.VSTATUS, SUM);
        guestOutcome("U's as VS, SUM", rig, store, FINE);
        rig = guestLoad(Rig.S, SPVP, entry(6, ALL | USER), second).control(Rig.VSTATUS, SUM);
        guestOutcome("U's as VS for execution, SUM", rig, execute, FINE);
        int onlyX = V | X | A;
        guestOutcome("X", guestLoad(Rig.S, SPVP, entry(6, onlyX), second), load, 13);
        guestOutcome("X for execution", guestLoad(Rig.S, SPVP, entry(6, onlyX), leaf(onlyX | USER)), execute, FINE);
        rig = guestLoad(Rig.S, SPVP, entry(6, ALL & ~X), second).control(Rig.STATUS, MXR).control(Rig.VSTATUS, MXR);
        guestOutcome("no X for execution", rig, execute, 13);
        rig = guestLoad(Rig.S, SPVP, entry(6, ALL), leaf(ALL & ~X | USER)).control(Rig.STATUS, MXR);
        guestOutcome("no X for execution, second", rig, execute, 21);
        secondFault("no X for execution, second", rig, 6 * 4096, false);
        guestOutcome("no A for execution", guestLoad(Rig.S, SPVP, entry(6, ALL & ~A), second), execute, 13);
        guestOutcome("S's for execution as VU", guestLoad(Rig.S, 0, entry(6, ALL), second), execute, 13);
        rig = guestLoad(Rig.S, SPVP, entry(6, onlyX), second).control(Rig.VSTATUS, MXR);
        guestOutcome("X, MXR of VS", rig, load, FINE);
        rig = guestLoad(Rig.S, SPVP, entry(6, ALL), leaf(onlyX | USER)).control(Rig.STATUS, MXR);
        guestOutcome("X second, MXR", rig, load, FINE);
        guestOutcome("without tables", guestLoad(Rig.S, 0, 0, 0).words(PAGE, SEEN), load, FINE);
        rig = guestLoad(Rig.S, SPVP, entry(6, ALL), second).control(Rig.ATP, 0);
        guestOutcome("its own tables are not asked", rig, load, FINE);
    }

    private static void guestForms() {
        int[][] rows = {
            {48, 0, 0, 0xffffff80}, {48, 1, 0, 0x80}, {48, 0, 3, 0x7f}, {50, 0, 0, 0xffffff80}, {50, 1, 0, 0xff80},
            {50, 3, 0, 0xff80}, {50, 0, 2, 0x7f01}, {52, 0, 0, 0x7f01ff80}, {52, 3, 0, 0x7f01ff80},
        };
        for (int[] row : rows) {
            Rig rig = guestLoad(Rig.S, 0, 0, 0).words(PAGE, 0x7f01ff80).register(6, PAGE + row[2]);
            guestOutcome("g " + row[0] + ", b " + row[1], rig, Asm.guestLoad(row[0], row[1], 5, 6), FINE);
            due("its x5", rig.get(5), row[3]);
        }
        int[][] stores = {{49, 0x11111178}, {51, 0x11115678}, {53, 0x12345678}};
        for (int[] row : stores) {
            Rig rig = guestLoad(Rig.S, 0, 0, 0).words(PAGE, 0x11111111);
            guestOutcome("g " + row[0], rig, Asm.guestStore(row[0], 7, 6), FINE);
            due("its word", rig.host.word(PAGE), row[1]);
        }
        int[] illegal = {
            Asm.guestLoad(48, 2, 5, 6), Asm.guestLoad(48, 3, 5, 6), Asm.guestLoad(50, 2, 5, 6), Asm.guestLoad(52, 1, 5, 6),
            Asm.guestLoad(52, 2, 5, 6), Asm.guestLoad(52, 4, 5, 6), Asm.guestLoad(50, 16, 5, 6), Asm.guestLoad(54, 0, 5, 6),
            Asm.guestLoad(46, 0, 5, 6), Asm.guestLoad(0, 0, 5, 6), Asm.guestStore(47, 7, 6), Asm.guestStore(55, 7, 6),
            Asm.guestStore(49, 7, 6) | 1 << 7, Asm.guestStore(51, 7, 6) | 1 << 11, Asm.guestStore(53, 7, 6) | 1 << 9,
        };
        int[] fine = {Asm.guestLoad(48, 0, 5, 6), Asm.guestLoad(50, 3, 0, 6), Asm.guestStore(53, 7, 6)};
        for (int mode = 0; mode < 4; mode++) {
            for (int word : illegal) {
                refused(mode, HU, word, 2);
            }
            for (int word : fine) {
                refused(mode, 0, word, mode == Rig.U ? 2 : mode == Rig.S ? FINE : 22);
                refused(mode, HU, word, mode < Rig.VU ? FINE : 22);
            }
        }
        Rig rig = guestLoad(Rig.VS, SPVP, 0, 0).control(Rig.HEDELEG, 4).words(CODE, illegal[0]);
        rig.host.run(1);
        due("an illegal one may be passed down", rig.told(Rig.VCAUSE), 2);
    }

    private static void refused(int mode, int hstatus, int word, int cause) {
        Rig rig = guestLoad(mode, hstatus, 0, 0).words(CODE, word);
        rig.host.run(1);
        String what = Integer.toHexString(word) + " in " + mode;
        due("CAUSE of " + what, rig.told(Rig.CAUSE), cause);
        due("GVA of " + what, rig.told(Rig.HSTATUS) & GVA, 0);
        if (cause != FINE) {
            due("TVAL of " + what, rig.told(Rig.TVAL), word);
        }
    }

    private static void guestExceptions() {
        Rig rig = guestLoad(Rig.S, SPVP, 0, 0).register(6, PAGE + 2);
        guestOutcome("misaligned", rig, Asm.guestLoad(52, 0, 5, 6), 4);
        due("SPVP stays", rig.told(Rig.HSTATUS) & SPVP, SPVP);
        due("PP of S", rig.told(Rig.STATUS) & 1 << 8, 1 << 8);
        rig = guestLoad(Rig.U, HU, 0, 0).register(6, PAGE + 1);
        guestOutcome("misaligned from U", rig, Asm.guestStore(51, 7, 6), 6);
        due("PP of U", rig.told(Rig.STATUS) & 1 << 8, 0);
        guestOutcome("misaligned for execution", guestLoad(Rig.S, 0, 0, 0).register(6, 1), Asm.guestLoad(50, 3, 5, 6), 4);
        guestOutcome("outside", guestLoad(Rig.S, 0, 0, 0).register(6, -4), Asm.guestLoad(52, 3, 5, 6), 5);
        guestOutcome("stored outside", guestLoad(Rig.S, 0, 0, 0).register(6, -4), Asm.guestStore(49, 7, 6), 7);
        rig = guestLoad(Rig.S, SPVP, entry(6, ALL), leaf(ALL)).control(Rig.HEDELEG, -1).register(6, PAGE + 8);
        guestOutcome("second stage", rig, Asm.guestStore(53, 7, 6), 23);
        secondFault("second stage", rig, 6 * 4096 + 8, false);
        rig = guestLoad(Rig.S, SPVP, entry(6, ALL & ~A), leaf(ALL)).control(Rig.HEDELEG, -1);
        guestOutcome("never passed down", rig, Asm.guestLoad(52, 0, 5, 6), 13);
        rig = guestLoad(Rig.S, SPVP, entry(6, ALL), leaf(ALL)).words(H_TABLE * 4096 + 4 * VS_TABLE, 0);
        guestOutcome("entry's place", rig, Asm.guestLoad(52, 3, 5, 6), 21);
        secondFault("entry's place", rig, VS_TABLE * 4096 + 20, true);
        // The next trap of S has nothing of f 4 left.
        rig.words(TVEC, Asm.load(2, 5, 0, 2)).host.run(1);
        due("CAUSE of the next", rig.told(Rig.CAUSE), 4);
        due("GVA of the next", rig.told(Rig.HSTATUS) & GVA, 0);
        due("HTVAL of the next", rig.told(Rig.HTVAL), 0);
        due("HTINST of the next", rig.told(Rig.HTINST), 0);
    }
}
