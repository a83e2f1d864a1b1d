/** TRANSLATION: misaligned addresses, walks, both stages, and places outside of memory. */
final class TranslationSection extends Section {
    private static final int FINE = Rig.NO_TRAP;
    private static final int V = Tables.V;
    private static final int R = Tables.R;
    private static final int W = Tables.W;
    private static final int X = Tables.X;
    private static final int USER = Tables.USER;
    private static final int A = Tables.A;
    private static final int D = Tables.D;
    private static final int ALL = Tables.ALL;
    private static final int ON = Tables.ON;
    private static final int PAGE = Tables.PAGE;
    private static final int FRAME = Tables.FRAME;
    private static final int PLACE = FRAME * 4096;
    private static final int SPARE = Tables.SPARE;
    private static final Tables.Touch FETCH = Tables.Touch.FETCH;
    private static final Tables.Touch LOAD = Tables.Touch.LOAD;
    private static final Tables.Touch STORE = Tables.Touch.STORE;
    private static final Tables.Touch[] TOUCHES = {FETCH, LOAD, STORE};
    private static final int[] GUESTS = {Rig.VU, Rig.VS};

    TranslationSection(Checks checks) {
        super(checks);
    }

    @Override
    void run() {
        misaligned();
        firstIndexes();
        secondStageIndexes();
        leaves();
        tables();
        notValid();
        notReadable();
        badPointers();
        noSecondLeaf();
        badLargeLeaves();
        wanted();
        accessed();
        userBit();
        results();
        largeResults();
        offsets();
        withoutTables();
        roots();
        ofU();
        ofS();
        executableLoads();
        faults();
        guestFirstStage();
        guestMxr();
        forExecution();
        guestFaults();
        throughTheSecondStage();
        withoutSecondStage();
        secondStageRoots();
        secondStageUser();
        entriesAreLoads();
        secondStageMxr();
        secondStageExecution();
        secondStageFaults();
        outside();
    }

    /** A step that touches the address in x6, and what it comes to. */
    private void touch(String what, Tables.Touch touch, Rig rig, int cause) {
        touchAt(what, touch, rig, cause, PLACE);
    }

    private void touchAt(String what, Tables.Touch touch, Rig rig, int cause, int place) {
        String full = touch + ", " + what;
        touch.step(rig);
        if (cause == FINE) {
            untrapped(full, rig);
        } else {
            trapped(full, rig, cause, rig.x(6));
        }
        due(full + ": reached", touch.reached(rig, place), cause == FINE);
        due(full + ": breaches", rig.host().breaches(), 0);
    }

    private static Rig ofS(int leaf) {
        return Tables.oneStage(Rig.S, leaf);
    }

    private static Rig ofVs(int first, int second) {
        return Tables.guest(Rig.VS, first, second);
    }

    private static int leaf(int flags) {
        return Tables.leaf(flags);
    }

    private static int middle(int flags) {
        return Tables.middle(flags);
    }

    private static int entry(int frame, int flags) {
        return Tables.entry(frame, flags);
    }

    // Misaligned

    private void misaligned() {
        says("TRANSLATION of an address that is fetched, loaded, stored. First, loads and stores of two bytes at an "
            + "odd address, of words not at a multiple of 4: exception 4 (load), 6 (store).");
        for (int mode = 0; mode < 4; mode++) {
            for (int low = 0; low < 4; low++) {
                for (int f = 0; f < 6; f++) {
                    if (f != 3) {
                        boolean right = (low & (1 << f % 4) - 1) == 0;
                        isAligned(mode, Asm.load(f, 5, 6, 0), low, right ? FINE : 4);
                    }
                    if (f < 3) {
                        isAligned(mode, Asm.store(f, 7, 6, 0), low, (low & (1 << f) - 1) == 0 ? FINE : 6);
                    }
                }
            }
        }
        trapped("before outside", Rig.in(Rig.S).register(6, -1).step(Asm.load(2, 5, 6, 0)), 4, -1);
        trapped("before outside, stored", Rig.in(Rig.S).register(6, Rig.MEMORY + 2).step(Asm.store(2, 5, 6, 0)), 6,
            Rig.MEMORY + 2);
        trapped("before a walk", ofS(0).register(6, PAGE + 2).step(Asm.load(2, 5, 6, 0)), 4, PAGE + 2);
        Rig rig = ofVs(middle(0x100), leaf(0x100)).register(6, PAGE + 1).step(Asm.store(1, 5, 6, 0));
        trapped("before both walks", rig, 6, PAGE + 1);
        due("HTVAL", rig.told(Rig.HTVAL), 0);
    }

    private void isAligned(int mode, int word, int low, int cause) {
        Rig rig = Rig.in(mode).register(6, 0x2000 + low).register(7, -1).step(word);
        String what = Integer.toHexString(word) + " at " + low + " in " + mode;
        if (cause == FINE) {
            untrapped(what, rig);
        } else {
            trapped(what, rig, cause, 0x2000 + low);
            due(what + ": memory stays", rig.word(0x2000), 0);
        }
    }

    // Walks

    private void firstIndexes() {
        says("A WALK by a root: the entry at the root's frame, 4 times the upper ten bits (22 to 31;");
        for (int n = 22; n < 32; n++) {
            Rig rig = ofS(0).words(Tables.place(Tables.S_ROOT, 1 << n - 22), entry(0, ALL)).register(6, 1 << n | PLACE);
            touch("bit " + n, LOAD, rig, FINE);
            rig = ofS(0).register(6, 1 << n | PLACE);
            touch("bit " + n + ", no entry", LOAD, rig, 13);
        }
        Rig rig = ofS(0).words(Tables.place(Tables.S_ROOT, 1023), entry(0, ALL)).register(6, 0xffc00000 | PLACE);
        touch("the last entry", STORE, rig, FINE);
    }

    private void secondStageIndexes() {
        says("of the second stage twelve bits, 22 to 33) behind it;");
        for (int n = 22; n < 34; n++) {
            // The first stage's large leaf leads to the address with bit n.
            int first = 1 << n - 2 | ALL;
            Rig rig = ofVs(middle(ALL), leaf(ALL | USER)).words(Tables.place(Tables.VS_ROOT, 1), first);
            rig.words(Tables.place(Tables.H_ROOT, 1 << n - 22), entry(0, ALL | USER));
            touch("bit " + n, LOAD, rig.register(6, 0x400000 | PLACE), FINE);
            rig = ofVs(middle(ALL), leaf(ALL | USER)).words(Tables.place(Tables.VS_ROOT, 1), first);
            touch("bit " + n + ", no entry", LOAD, rig.register(6, 0x400000 | PLACE), 21);
            due("its HTVAL", rig.told(Rig.HTVAL), 1 << n - 2 | PLACE >> 2);
        }
        Rig rig = ofVs(middle(ALL), leaf(ALL | USER)).words(Tables.place(Tables.VS_ROOT, 1), 0xfff00000 | ALL);
        rig.words(Tables.place(Tables.H_ROOT, 4095), entry(0, ALL | USER)).register(6, 0x400000 | PLACE);
        touch("the last entry", STORE, rig, FINE);
    }

    private void leaves() {
        says("a LEAF, if bit 1, 2 or 3 (R, W, X) is set;");
        int far = 0x400000;
        for (int flags : new int[] {R, X, R | W, R | X, R | W | X}) {
            for (Tables.Touch touch : TOUCHES) {
                int wants = touch == FETCH ? X : touch == LOAD ? R : W;
                // Where it is taken for a table, frame 0 has no entry.
                Rig rig = ofS(0).words(Tables.place(Tables.S_ROOT, 1), entry(0, V | A | D | flags))
                    .register(6, far + PLACE);
                touch("a leaf of " + flags, touch, rig, (flags & wants) != 0 ? FINE : touch.fault);
            }
        }
        Rig rig = ofS(leaf(ALL)).words(Tables.place(Tables.S_ROOT, 1), entry(Tables.S_TABLE, V))
            .register(6, far + PAGE);
        touch("without them it is a table", LOAD, rig, FINE);
    }

    private void tables() {
        says("else 4,096 times its bits 31 .. 10 is the table of which the entry at 4 times the next ten bits "
            + "(12 to 21) must be a leaf.");
        for (int n = 12; n < 22; n++) {
            Rig rig = ofS(0).words(Tables.place(Tables.S_ROOT, 1), entry(SPARE, V));
            rig.words(Tables.place(SPARE, 1 << n - 12), leaf(ALL)).register(6, 0x400000 | 1 << n);
            touch("bit " + n, LOAD, rig, FINE);
        }
        Rig rig = ofS(0).words(Tables.place(Tables.S_ROOT, 1), entry(SPARE, V));
        touch("the last entry", LOAD, rig.words(Tables.place(SPARE, 1023), leaf(ALL)).register(6, 0x7ff000), FINE);
        for (int n = 0; n < 22; n++) {
            rig = ofS(0).words(Tables.place(Tables.S_ROOT, 1), entry(1 << n, V)).register(6, 0x400000 | 0x3fe000);
            if (n < 6) {
                rig.words(Tables.place(1 << n, 1022), leaf(ALL));
            }
            touch("a table at 2^" + n, LOAD, rig, n < 6 ? FINE : 5);
        }
        rig = ofS(0).words(Tables.place(Tables.S_ROOT, 1), entry(63, V)).words(Tables.place(63, 1023), leaf(ALL));
        touch("a table at memory's end", STORE, rig.register(6, 0x7ff000), FINE);
        rig = ofS(0).words(Tables.place(Tables.S_ROOT, 1), entry(SPARE, V | 0x320));
        rig.words(Tables.place(SPARE, 5), leaf(ALL | 0x320)).register(6, 0x400000 | PAGE);
        touch("bits 5, 8, 9 are not looked at", LOAD, rig, FINE);
    }

    /** S with a first entry of one's own for the addresses from 4 MiB on. */
    private static Rig withFirst(int entry) {
        return ofS(leaf(ALL)).words(Tables.place(Tables.S_ROOT, 1), entry).register(6, 0x400000 | PAGE);
    }

    private void notValid() {
        says("A FAULT: an entry has bit 0 (V) clear,");
        for (Tables.Touch touch : TOUCHES) {
            touch("a leaf", touch, ofS(leaf(ALL & ~V)), touch.fault);
            touch("0", touch, ofS(0), touch.fault);
            touch("a first entry", touch, withFirst(entry(Tables.S_TABLE, 0)), touch.fault);
            touch("a large leaf", touch, withFirst(ALL & ~V).register(6, 0x400000 | PLACE), touch.fault);
            touch("the second stage's leaf", touch, ofVs(0, leaf(ALL & ~V | USER)), touch.second);
        }
        touch("before its place", LOAD, withFirst(entry(64, 0)), 13);
        touch("before its result", LOAD, ofS(entry(64, ALL & ~V)), 13);
    }

    private void notReadable() {
        says("or W without R;");
        for (Tables.Touch touch : TOUCHES) {
            for (int flags : new int[] {V | W | A | D, V | W | X | A | D}) {
                touch("a leaf", touch, ofS(leaf(flags)).control(Rig.STATUS, Rig.MXR), touch.fault);
                touch("a large leaf", touch, withFirst(flags).register(6, 0x400000 | PLACE), touch.fault);
                Rig rig = ofVs(0, leaf(flags | USER)).control(Rig.STATUS, Rig.MXR);
                touch("the second stage's leaf", touch, rig, touch.second);
                touch("the first stage's leaf", touch, ofVs(leaf(flags), 0).control(Rig.STATUS, Rig.MXR), touch.fault);
            }
            // Without A and D it is no table, either.
            touch("W alone", touch, withFirst(entry(Tables.S_TABLE, V | W)), touch.fault);
            Rig rig = ofVs(leaf(ALL), 0).words(Tables.place(Tables.VS_ROOT, 1), entry(Tables.VS_TABLE, V | W));
            touch("W alone, VS", touch, rig.register(6, 0x400000 | PAGE), touch.fault);
            rig = ofVs(0, leaf(ALL | USER)).words(Tables.place(Tables.H_ROOT, 1), entry(Tables.H_TABLE, V | W));
            touch("W alone, second stage", touch, rig.register(6, 0x400000 | PAGE), touch.second);
        }
    }

    private void badPointers() {
        says("the first one is no leaf and has bit 4, 6 or 7 set;");
        for (int flag : new int[] {USER, A, D}) {
            touch("bit " + flag, LOAD, withFirst(entry(Tables.S_TABLE, V | flag)), 13);
            touch("bit " + flag, STORE, withFirst(entry(Tables.S_TABLE, V | flag)), 15);
            touch("before its place", FETCH, withFirst(entry(64, V | flag)), 12);
            Rig rig = ofVs(leaf(ALL), 0).words(Tables.place(Tables.VS_ROOT, 1), entry(Tables.VS_TABLE, V | flag));
            touch("VS, bit " + flag, LOAD, rig.register(6, 0x400000 | PAGE), 13);
            rig = ofVs(0, leaf(ALL | USER)).words(Tables.place(Tables.H_ROOT, 1), entry(Tables.H_TABLE, V | flag));
            touch("second stage, bit " + flag, LOAD, rig.register(6, 0x400000 | PAGE), 21);
        }
        touch("without them", LOAD, withFirst(entry(Tables.S_TABLE, V)), FINE);
    }

    private void noSecondLeaf() {
        says("the second one is no leaf;");
        for (Tables.Touch touch : TOUCHES) {
            touch("S", touch, withThird(ofS(entry(SPARE, V)), leaf(ALL)), touch.fault);
            touch("VS", touch, withThird(ofVs(entry(SPARE, V), 0), leaf(ALL)), touch.fault);
            touch("second stage", touch, withThird(ofVs(0, entry(SPARE, V)), leaf(ALL | USER)), touch.second);
            touch("with A and D", touch, ofS(entry(FRAME, V | A | D)), touch.fault);
        }
    }

    /** A third table that would do stands ready. */
    private static Rig withThird(Rig rig, int leaf) {
        return rig.words(Tables.place(SPARE, 0), leaf).words(Tables.place(SPARE, 5), leaf);
    }

    private void badLargeLeaves() {
        says("a leaf in the first table has one of bits 10 .. 19 set;");
        for (int n = 10; n < 20; n++) {
            for (Tables.Touch touch : TOUCHES) {
                touch("bit " + n, touch, withFirst(1 << n | ALL).register(6, 0x400000 | PLACE), touch.fault);
                Rig rig = ofVs(0, leaf(ALL | USER)).words(Tables.place(Tables.H_ROOT, 1), 1 << n | ALL | USER);
                touch("second stage, bit " + n, touch, rig.register(6, 0x400000 | PLACE), touch.second);
                rig = ofVs(leaf(ALL), 0).words(Tables.place(Tables.VS_ROOT, 1), 1 << n | ALL);
                touch("VS, bit " + n, touch, rig.register(6, 0x400000 | PLACE), touch.fault);
            }
        }
        touch("none of them", LOAD, withFirst(ALL).register(6, 0x400000 | PLACE), FINE);
        touch("before its result", LOAD, withFirst(1 << 10 | 1 << 20 | ALL), 13);
    }

    private void wanted() {
        says("or the leaf does not allow it: a fetch wants X;");
        touch("X", FETCH, ofS(leaf(V | X | A)), FINE);
        touch("all but X", FETCH, ofS(leaf(ALL & ~X)), 12);
        touch("all but X, MXR", FETCH, ofS(leaf(ALL & ~X)).control(Rig.STATUS, Rig.MXR), 12);
        touch("a large leaf without X", FETCH, withFirst(ALL & ~X).register(6, 0x400000 | PLACE), 12);
        says("a load R (or X, if so said);");
        touch("R", LOAD, ofS(leaf(V | R | A)), FINE);
        touch("X", LOAD, ofS(leaf(V | X | A)), 13);
        touch("X, MXR", LOAD, ofS(leaf(V | X | A)).control(Rig.STATUS, Rig.MXR), FINE);
        touch("R, MXR", LOAD, ofS(leaf(V | R | A)).control(Rig.STATUS, Rig.MXR), FINE);
        touch("a large leaf of X", LOAD, withFirst(V | X | A).register(6, 0x400000 | PLACE), 13);
        says("a store W;");
        touch("W", STORE, ofS(leaf(V | R | W | A | D)), FINE);
        touch("all but W", STORE, ofS(leaf(ALL & ~W)), 15);
        touch("all but W, MXR", STORE, ofS(leaf(ALL & ~W)).control(Rig.STATUS, Rig.MXR | Rig.SUM), 15);
        touch("a large leaf without W", STORE, withFirst(ALL & ~W).register(6, 0x400000 | PLACE), 15);
    }

    private void accessed() {
        says("bit 6 (A) must be set,");
        for (Tables.Touch touch : TOUCHES) {
            touch("A", touch, ofS(leaf(ALL)), FINE);
            touch("all but A", touch, ofS(leaf(ALL & ~A)), touch.fault);
            touch("all but A, first stage", touch, ofVs(leaf(ALL & ~A), 0), touch.fault);
            touch("all but A, second stage", touch, ofVs(0, leaf(ALL & ~A | USER)), touch.second);
            touch("a large leaf without A", touch, withFirst(ALL & ~A).register(6, 0x400000 | PLACE), touch.fault);
        }
        Rig rig = LOAD.step(ofS(leaf(ALL & ~A)));
        due("nothing sets it", rig.word(Tables.place(Tables.S_TABLE, 5)), leaf(ALL & ~A));
        says("for stores bit 7 (D);");
        for (Tables.Touch touch : TOUCHES) {
            touch("all but D", touch, ofS(leaf(ALL & ~D)), touch == STORE ? 15 : FINE);
            touch("all but D, first stage", touch, ofVs(leaf(ALL & ~D), 0), touch == STORE ? 15 : FINE);
            touch("all but D, second stage", touch, ofVs(0, leaf(ALL & ~D | USER)), touch == STORE ? 23 : FINE);
        }
        rig = STORE.step(ofS(leaf(ALL & ~D)));
        due("nothing sets it", rig.word(Tables.place(Tables.S_TABLE, 5)), leaf(ALL & ~D));
    }

    private void userBit() {
        says("and bit 4 (U) as said.");
        for (Tables.Touch touch : TOUCHES) {
            touch("set, U", touch, Tables.oneStage(Rig.U, leaf(ALL | USER)), FINE);
            touch("clear, U", touch, Tables.oneStage(Rig.U, leaf(ALL)), touch.fault);
            touch("set, S", touch, ofS(leaf(ALL | USER)), touch.fault);
            touch("clear, S", touch, ofS(leaf(ALL)), FINE);
            touch("a large leaf, set, S", touch, withFirst(ALL | USER).register(6, 0x400000 | PLACE), touch.fault);
        }
    }

    private void results() {
        says("The result has bits 33 .. 12 from bits 31 .. 10 of the leaf");
        for (int n = 10; n < 32; n++) {
            int place = (n < 16 ? 4096 << n - 10 : 0) + 0xabc;
            Rig rig = ofS(1 << n | ALL).words(place, Tables.SEEN).register(6, PAGE + 0xabc);
            touchAt("bit " + n, LOAD, rig, n < 16 ? FINE : 5, place);
            rig = ofS(1 << n | ALL).register(6, PAGE + 0xabc);
            touchAt("bit " + n, STORE, rig, n < 16 ? FINE : 7, place);
        }
        Rig rig = ofS(entry(63, ALL)).words(Rig.MEMORY - 4, Tables.SEEN).register(6, PAGE + 4092);
        touchAt("memory's last word", LOAD, rig, FINE, Rig.MEMORY - 4);
        touchAt("behind memory", LOAD, ofS(entry(64, ALL)), 5, 0);
        for (Tables.Touch touch : TOUCHES) {
            touchAt("memory's first word", touch, ofS(entry(0, ALL)).words(0, Tables.SEEN), FINE, 0);
            touchAt("memory's first word in VS", touch, ofVs(entry(0, ALL), 0).words(0, Tables.SEEN), FINE, 0);
            rig = ofVs(0, entry(0, ALL | USER)).words(0, Tables.SEEN);
            touchAt("memory's first word by the second stage", touch, rig, FINE, 0);
        }
    }

    private void largeResults() {
        says("(of a leaf in the first table bits 21 .. 12 from the address),");
        for (int n = 12; n < 22; n++) {
            int place = (n < 18 ? 1 << n : 0) + 0xabc;
            Rig rig = withFirst(ALL).words(place, Tables.SEEN).register(6, 0x400000 | 1 << n | 0xabc);
            touchAt("bit " + n, LOAD, rig, n < 18 ? FINE : 5, place);
        }
        for (int n = 20; n < 32; n++) {
            Rig rig = withFirst(1 << n | ALL).register(6, 0x400000 | PLACE);
            touch("bit " + n + " of the leaf", STORE, rig, 7);
        }
        Rig rig = withFirst(ALL).words(Rig.MEMORY - 4, Tables.SEEN).register(6, 0x400000 + Rig.MEMORY - 4);
        touchAt("memory's last word", LOAD, rig, FINE, Rig.MEMORY - 4);
        touchAt("behind memory", LOAD, withFirst(ALL).register(6, 0x400000 + Rig.MEMORY), 5, 0);
    }

    private void offsets() {
        says("bits 11 .. 0 from the address.");
        for (int n = 0; n < 12; n++) {
            Rig rig = ofS(leaf(ALL)).words(PLACE, 0).register(6, PAGE + (1 << n)).register(7, 0xab);
            rig.words(Rig.AT, Asm.store(0, 7, 6, 0), Asm.load(4, 5, 6, 0)).run(2);
            int at = PLACE + (1 << n);
            due("bit " + n, rig.word(at & -4), 0xab << 8 * (at & 3));
            due("bit " + n + " loaded", rig.x(5), 0xab);
            rig = withFirst(ALL).words(PLACE, 0).register(6, 0x400000 + PLACE + (1 << n)).register(7, 0xab);
            rig.words(Rig.AT, Asm.store(0, 7, 6, 0)).run(1);
            due("bit " + n + " of a large leaf", rig.word(at & -4), 0xab << 8 * (at & 3));
        }
        Rig rig = ofS(leaf(ALL)).words(PLACE + 4092, Tables.SEEN).register(6, PAGE + 4092);
        touchAt("the page's last word", FETCH, rig, FINE, PLACE + 4092);
    }

    // U and S

    private void withoutTables() {
        says("U and S: with bit 31 of ATP clear the address is that of memory;");
        for (int mode : new int[] {Rig.U, Rig.S}) {
            for (Tables.Touch touch : TOUCHES) {
                Rig rig = Tables.oneStage(mode, 0).control(Rig.ATP, Tables.S_ROOT).words(PAGE, Tables.SEEN);
                touchAt("off in " + mode, touch, rig, FINE, PAGE);
                rig = Tables.oneStage(mode, 0).control(Rig.ATP, MOST).words(PAGE, Tables.SEEN);
                touchAt("off, all else set, in " + mode, touch, rig, FINE, PAGE);
                rig = Tables.oneStage(mode, 0).control(Rig.ATP, 0).register(6, Rig.MEMORY);
                touchAt("off, behind memory, in " + mode, touch, rig, touch.outside, 0);
                rig = Tables.oneStage(mode, 0).control(Rig.ATP, 0).control(Rig.VATP, ON | 63)
                    .control(Rig.HGATP, ON | 60);
                touchAt("the guest's tables, in " + mode, touch, rig.words(PAGE, Tables.SEEN), FINE, PAGE);
            }
        }
    }

    private void roots() {
        says("else a walk by its bits 21 .. 0 times 4,096;");
        for (int n = 0; n < 22; n++) {
            Rig rig = Rig.in(Rig.S).register(6, 0xffc00000 + PLACE).words(PLACE, Tables.SEEN);
            if (n < 6) {
                rig.words(Tables.place(1 << n, 1023), ALL);
            }
            touch("a root of bit " + n, FETCH, rig.control(Rig.ATP, ON | 1 << n), n < 6 ? FINE : 1);
        }
        Rig rig = Rig.in(Rig.S).words(PLACE, Tables.SEEN).words(Rig.MEMORY - 4, ALL).control(Rig.ATP, ON | 63);
        touch("memory's last word is the entry", FETCH, rig.register(6, 0xffc00000 + PLACE), FINE);
        rig = Rig.in(Rig.S).words(PLACE, Tables.SEEN).words(0, ALL).control(Rig.ATP, ON);
        touch("a root of 0", FETCH, rig.register(6, PLACE), FINE);
    }

    private void ofU() {
        says("U wants U set;");
        for (Tables.Touch touch : TOUCHES) {
            for (int status : new int[] {0, Rig.SUM, Rig.MXR}) {
                touch("set", touch, Tables.oneStage(Rig.U, leaf(ALL | USER)).control(Rig.STATUS, status), FINE);
                touch("clear", touch, Tables.oneStage(Rig.U, leaf(ALL)).control(Rig.STATUS, status), touch.fault);
            }
        }
    }

    private void ofS() {
        says("S clear, but for loads and stores with SUM either way;");
        for (Tables.Touch touch : TOUCHES) {
            touch("clear", touch, ofS(leaf(ALL)), FINE);
            touch("set", touch, ofS(leaf(ALL | USER)), touch.fault);
            touch("clear, SUM", touch, ofS(leaf(ALL)).control(Rig.STATUS, Rig.SUM), FINE);
            Rig rig = ofS(leaf(ALL | USER)).control(Rig.STATUS, Rig.SUM);
            touch("set, SUM", touch, rig, touch == FETCH ? 12 : FINE);
            touch("set, SUM of VS", touch, ofS(leaf(ALL | USER)).control(Rig.VSTATUS, Rig.SUM), touch.fault);
            touch("set, all but SUM", touch, ofS(leaf(ALL | USER)).control(Rig.STATUS, ~Rig.SUM), touch.fault);
        }
    }

    private void executableLoads() {
        says("with MXR loads take X, too.");
        int onlyX = V | X | A;
        for (int mode : new int[] {Rig.U, Rig.S}) {
            int user = mode == Rig.U ? USER : 0;
            touch("X", LOAD, Tables.oneStage(mode, leaf(onlyX | user)), 13);
            touch("X, MXR", LOAD, Tables.oneStage(mode, leaf(onlyX | user)).control(Rig.STATUS, Rig.MXR), FINE);
            touch("X, MXR of VS", LOAD, Tables.oneStage(mode, leaf(onlyX | user)).control(Rig.VSTATUS, Rig.MXR), 13);
            touch("X, all but MXR", LOAD, Tables.oneStage(mode, leaf(onlyX | user)).control(Rig.STATUS, ~Rig.MXR), 13);
            Rig rig = Tables.oneStage(mode, leaf(onlyX & ~A | user)).control(Rig.STATUS, Rig.MXR);
            touch("X without A, MXR", LOAD, rig, 13);
            rig = Tables.oneStage(mode, leaf(onlyX | D | user)).control(Rig.STATUS, Rig.MXR);
            touch("X, MXR", STORE, rig, 15);
        }
    }

    private void faults() {
        says("A fault: exception 12 (fetch), 13 (load), 15 (store).");
        for (int mode : new int[] {Rig.U, Rig.S}) {
            touch("no leaf", FETCH, Tables.oneStage(mode, 0), 12);
            touch("no leaf", LOAD, Tables.oneStage(mode, 0), 13);
            touch("no leaf", STORE, Tables.oneStage(mode, 0), 15);
            Rig rig = Tables.oneStage(mode, 0);
            touch("the word at the page's end", LOAD, rig.register(6, PAGE + 4092), 13);
        }
    }

    // VU and VS

    private void guestFirstStage() {
        says("VU and VS: first so by VS ATP, VU, VS, and VS STATUS' SUM;");
        for (Tables.Touch touch : TOUCHES) {
            touch("VU, set", touch, Tables.guest(Rig.VU, leaf(ALL | USER), 0), FINE);
            touch("VU, clear", touch, Tables.guest(Rig.VU, leaf(ALL), 0).control(Rig.VSTATUS, Rig.SUM), touch.fault);
            touch("VS, clear", touch, ofVs(leaf(ALL), 0), FINE);
            touch("VS, set", touch, ofVs(leaf(ALL | USER), 0), touch.fault);
            int withSum = touch == FETCH ? 12 : FINE;
            touch("VS, set, SUM", touch, ofVs(leaf(ALL | USER), 0).control(Rig.VSTATUS, Rig.SUM), withSum);
            touch("VS, clear, SUM", touch, ofVs(leaf(ALL), 0).control(Rig.VSTATUS, Rig.SUM), FINE);
            touch("VS, set, SUM of S", touch, ofVs(leaf(ALL | USER), 0).control(Rig.STATUS, Rig.SUM), touch.fault);
            touch("VS, set, all but SUM", touch, ofVs(leaf(ALL | USER), 0).control(Rig.VSTATUS, ~Rig.SUM), touch.fault);
            touch("S's ATP does not count", touch, ofVs(leaf(ALL), 0).control(Rig.ATP, ON | 63), FINE);
            for (int mode : GUESTS) {
                Rig rig = Tables.guest(mode, leaf(ALL), 0).control(Rig.VATP, Tables.VS_ROOT).words(PAGE, Tables.SEEN);
                touchAt("off", touch, rig, FINE, PAGE);
            }
        }
    }

    private void guestMxr() {
        says("loads take X with MXR of VS STATUS or STATUS");
        int onlyX = V | X | A;
        for (int mode : GUESTS) {
            int first = leaf(onlyX | (mode == Rig.VU ? USER : 0));
            touch("neither", LOAD, Tables.guest(mode, first, 0), 13);
            touch("VS's", LOAD, Tables.guest(mode, first, 0).control(Rig.VSTATUS, Rig.MXR), FINE);
            touch("S's", LOAD, Tables.guest(mode, first, 0).control(Rig.STATUS, Rig.MXR), FINE);
            Rig rig = Tables.guest(mode, first, 0).control(Rig.STATUS, Rig.MXR).control(Rig.VSTATUS, Rig.MXR);
            touch("both", LOAD, rig, FINE);
            rig = Tables.guest(mode, first, 0).control(Rig.STATUS, ~Rig.MXR).control(Rig.VSTATUS, ~Rig.MXR);
            touch("all but these", LOAD, rig, 13);
            touch("stores", STORE, Tables.guest(mode, first | D, 0).control(Rig.VSTATUS, Rig.MXR), 15);
        }
    }

    /** S loads a word for execution, as VS. */
    private void execution(String what, int first, int second, int status, int vsStatus, int cause) {
        Rig rig = ofVs(first, second).control(Rig.HSTATUS, Rig.SPVP).control(Rig.STATUS, status).place(Rig.AT, Rig.S);
        rig.control(Rig.VSTATUS, vsStatus).step(Asm.guestLoad(52, 3, 5, 6));
        if (cause == FINE) {
            untrapped(what, rig);
        } else {
            trapped(what, rig, cause, PAGE);
        }
        due(what + ": x5", rig.x(5), cause == FINE ? Tables.SEEN : 0);
    }

    private void forExecution() {
        says("(loads for execution want X, and nothing else).");
        execution("X", leaf(V | X | A), 0, 0, 0, FINE);
        execution("all", leaf(ALL), 0, 0, 0, FINE);
        execution("R", leaf(V | R | A), 0, 0, 0, 13);
        execution("R, MXR", leaf(V | R | A), 0, Rig.MXR, Rig.MXR, 13);
        execution("all but X", leaf(ALL & ~X), 0, 0, 0, 13);
        // What a leaf must have besides stays as it is for loads.
        execution("X without A", leaf(V | X), 0, 0, 0, 13);
        execution("X, U set", leaf(V | X | A | USER), 0, 0, 0, 13);
        execution("X, U set, SUM", leaf(V | X | A | USER), 0, 0, Rig.SUM, FINE);
    }

    private void guestFaults() {
        says("A fault: as above.");
        for (int mode : GUESTS) {
            for (Tables.Touch touch : TOUCHES) {
                Rig rig = Tables.guest(mode, middle(ALL & ~V), leaf(ALL | USER));
                touch("first stage in " + mode, touch, rig, touch.fault);
                due("HTVAL", rig.told(Rig.HTVAL), 0);
                due("HTINST", rig.told(Rig.HTINST), 0);
                rig = Tables.guest(mode, middle(ALL & ~V), leaf(ALL));
                touch("before the second stage's in " + mode, touch, rig, touch.fault);
            }
        }
    }

    private void throughTheSecondStage() {
        says("Each entry's place, and the result (without the first stage the address) go through the SECOND STAGE:");
        for (Tables.Touch touch : TOUCHES) {
            for (int mode : GUESTS) {
                int user = mode == Rig.VU ? USER : 0;
                touch("both", touch, Tables.guest(mode, middle(ALL | user), leaf(ALL | USER)), FINE);
                touch("the second alone", touch, Tables.guest(mode, 0, leaf(ALL | USER)), FINE);
            }
            // The guest's tables seem to stand elsewhere than they do.
            Rig rig = ofVs(middle(ALL), leaf(ALL | USER));
            rig.words(Tables.place(Tables.H_TABLE, 40), toTable(Tables.VS_ROOT), toTable(Tables.VS_TABLE));
            rig.words(Tables.place(Tables.VS_ROOT, 0), entry(41, V)).control(Rig.VATP, ON | 40);
            touch("entries elsewhere", touch, rig, FINE);
            int second = leaf(ALL | USER);
            rig = ofVs(0, second).words(Tables.place(Tables.H_TABLE, 0), second).register(6, 0);
            touch("the address 0", touch, rig, FINE);
            rig = ofVs(entry(0, ALL), second).words(Tables.place(Tables.H_TABLE, 0), second);
            touch("the result 0", touch, rig, FINE);
            rig = ofVs(middle(ALL), second).words(Tables.place(Tables.H_TABLE, 0), toTable(Tables.VS_ROOT));
            touch("an entry's place 0", touch, rig.control(Rig.VATP, ON), FINE);
            rig = ofVs(middle(ALL), second).words(Tables.place(Tables.H_TABLE, 40), toTable(0));
            rig.words(0, entry(Tables.VS_TABLE, V)).control(Rig.VATP, ON | 40);
            touch("an entry at memory's first word", touch, rig, FINE);
            rig = ofVs(middle(ALL), leaf(ALL | USER)).words(Tables.place(Tables.H_TABLE, Tables.VS_ROOT), 0);
            touch.step(rig);
            due("the first entry's place: CAUSE", rig.told(Rig.CAUSE), 20);
            due("the first entry's place: HTVAL", rig.told(Rig.HTVAL), Tables.place(Tables.VS_ROOT, 0) / 4);
        }
    }

    /** The second stage's leaf to a table of the first stage. */
    private static int toTable(int frame) {
        return entry(frame, V | R | A | USER);
    }

    private void withoutSecondStage() {
        says("with bit 31 of HGATP clear they are those of memory;");
        for (Tables.Touch touch : TOUCHES) {
            for (int hgatp : new int[] {0, Tables.H_ROOT, MOST}) {
                Rig rig = ofVs(leaf(ALL), 0).control(Rig.HGATP, hgatp);
                touch("the first stage alone", touch, rig, FINE);
                rig = ofVs(0, 0).control(Rig.HGATP, hgatp).words(PAGE, Tables.SEEN);
                touchAt("none", touch, rig, FINE, PAGE);
            }
            Rig atFirst = ofVs(leaf(ALL), 0).words(0, entry(Tables.VS_TABLE, V)).control(Rig.VATP, ON);
            touch("a root of 0", touch, atFirst, FINE);
            touchAt("a result behind memory", touch, ofVs(entry(64, ALL), 0), touch.outside, 0);
            touchAt("a result of 34 bits", touch, ofVs(entry(0x100000 | FRAME, ALL), 0), touch.outside, PLACE);
        }
    }

    private void secondStageRoots() {
        says("else a walk by its bits 21 .. 2 and two 0 times 4,096;");
        for (int n = 0; n < 22; n++) {
            Rig rig = Rig.in(Rig.VS).register(6, 0xffc00000 + PLACE).words(PLACE, Tables.SEEN);
            int root = n < 2 ? 0 : 1 << n;
            if (n < 6) {
                rig.words(Tables.place(root, 1023), ALL | USER);
            }
            touch("a root of bit " + n, FETCH, rig.control(Rig.HGATP, ON | 1 << n), n < 6 ? FINE : 1);
        }
        touch("two 0", LOAD, ofVs(0, leaf(ALL | USER)).control(Rig.HGATP, ON | Tables.H_ROOT | 3), FINE);
        Rig rig = ofVs(0, 0).words(0, ALL | USER).control(Rig.HGATP, ON).register(6, PLACE);
        touch("memory's first word is the entry", FETCH, rig, FINE);
        rig = ofVs(middle(ALL), leaf(ALL | USER)).words(Tables.place(Tables.VS_ROOT, 1), 0xfff00000 | ALL);
        rig.words(Tables.place(60, 0), entry(Tables.H_TABLE, V)).words(Rig.MEMORY - 4, ALL | USER);
        touch("memory's last word is the entry", LOAD, rig.control(Rig.HGATP, ON | 60).register(6, 0x400000 | PLACE),
            FINE);
    }

    private void secondStageUser() {
        says("U must be set;");
        for (Tables.Touch touch : TOUCHES) {
            for (int mode : GUESTS) {
                Rig rig = Tables.guest(mode, 0, leaf(ALL));
                rig.control(Rig.STATUS, Rig.SUM).control(Rig.VSTATUS, Rig.SUM);
                touch("clear in " + mode, touch, rig, touch.second);
                touch("set in " + mode, touch, Tables.guest(mode, 0, leaf(ALL | USER)), FINE);
            }
            Rig rig = ofVs(0, leaf(ALL)).words(Tables.place(Tables.H_ROOT, 1), ALL).register(6, 0x400000 | PLACE);
            touch("a large leaf, clear", touch, rig, touch.second);
        }
    }

    private void entriesAreLoads() {
        says("an entry of the first stage is a load (X does not do);");
        int[] good = {V | R | A | USER, ALL | USER, V | R | X | A | USER, V | R | W | A | USER};
        int[] bad = {V | X | A | USER, V | R | USER, V | R | A, V | R | W | X | D | USER, 0};
        for (Tables.Touch touch : TOUCHES) {
            for (int flags : good) {
                touch("flags " + flags, touch, entriesBy(flags), FINE);
            }
            for (int flags : bad) {
                Rig rig = entriesBy(flags).control(Rig.STATUS, Rig.MXR | Rig.SUM)
                    .control(Rig.VSTATUS, Rig.MXR | Rig.SUM);
                touch("flags " + flags, touch, rig, touch.second);
                due("HTINST", rig.told(Rig.HTINST), 0x2000);
            }
        }
    }

    /** VS with a second table of its own for what is touched, which the second stage shows by some flags. */
    private static Rig entriesBy(int flags) {
        Rig rig = ofVs(middle(ALL), leaf(ALL | USER)).words(Tables.place(Tables.VS_ROOT, 1), entry(SPARE, V));
        rig.words(Tables.place(SPARE, 5), middle(ALL)).words(Tables.place(Tables.H_TABLE, SPARE), entry(SPARE, flags));
        return rig.register(6, 0x400000 | PAGE);
    }

    private void secondStageMxr() {
        says("the result's loads take X with MXR of STATUS");
        int second = leaf(V | X | A | USER);
        for (int mode : GUESTS) {
            touch("without", LOAD, Tables.guest(mode, 0, second), 21);
            touch("of S", LOAD, Tables.guest(mode, 0, second).control(Rig.STATUS, Rig.MXR), FINE);
            touch("of VS", LOAD, Tables.guest(mode, 0, second).control(Rig.VSTATUS, Rig.MXR), 21);
            touch("all but it", LOAD, Tables.guest(mode, 0, second).control(Rig.STATUS, ~Rig.MXR), 21);
            touch("stores", STORE, Tables.guest(mode, 0, second | D).control(Rig.STATUS, Rig.MXR), 23);
        }
        touch("X twice, of VS", LOAD, ofVs(middle(V | X | A), second).control(Rig.VSTATUS, Rig.MXR), 21);
        touch("X twice, of S", LOAD, ofVs(middle(V | X | A), second).control(Rig.STATUS, Rig.MXR), FINE);
        touch("X first, of VS", LOAD, ofVs(middle(V | X | A), leaf(ALL | USER)).control(Rig.VSTATUS, Rig.MXR), FINE);
    }

    private void secondStageExecution() {
        says("(for execution want X).");
        execution("X", middle(ALL), leaf(V | X | A | USER), 0, 0, FINE);
        execution("all but X", middle(ALL), leaf(ALL & ~X | USER), 0, 0, 21);
        execution("all but X, MXR", middle(ALL), leaf(ALL & ~X | USER), Rig.MXR, Rig.MXR, 21);
        execution("X without A", middle(ALL), leaf(V | X | USER), 0, 0, 21);
        execution("X, U clear", middle(ALL), leaf(V | X | A), 0, 0, 21);
        execution("entries are loads still", middle(V | X | A), leaf(V | X | A | USER), 0, 0, FINE);
        Rig rig = ofVs(0, leaf(V | X | A | USER)).control(Rig.HSTATUS, Rig.SPVP).place(Rig.AT, Rig.S);
        due("without the first stage", rig.step(Asm.guestLoad(52, 3, 5, 6)).x(5), Tables.SEEN);
    }

    private void secondStageFaults() {
        says("A fault: exception 20 (fetch), 21 (load), 23 (store), by what was asked for, at an entry's place, too.");
        int[] causes = {20, 21, 23};
        for (int i = 0; i < TOUCHES.length; i++) {
            for (int mode : GUESTS) {
                Rig rig = Tables.guest(mode, 0, leaf(ALL & ~V)).register(6, PAGE + 0x124);
                touch("the address in " + mode, TOUCHES[i], rig, causes[i]);
                due("HTVAL", rig.told(Rig.HTVAL), (PAGE + 0x124) / 4);
                due("HTINST", rig.told(Rig.HTINST), 0);
            }
            Rig rig = ofVs(middle(ALL), leaf(ALL)).register(6, PAGE + 0x124);
            touch("the result", TOUCHES[i], rig, causes[i]);
            due("HTVAL", rig.told(Rig.HTVAL), (Tables.MIDDLE * 4096 + 0x124) / 4);
            due("HTINST", rig.told(Rig.HTINST), 0);
            rig = entriesBy(0);
            touch("a second entry's place", TOUCHES[i], rig, causes[i]);
            due("HTVAL", rig.told(Rig.HTVAL), Tables.place(SPARE, 5) / 4);
            due("HTINST", rig.told(Rig.HTINST), 0x2000);
        }
        Rig rig = ofVs(0, leaf(ALL | USER)).register(6, 0xfffff004);
        touch("the address is U", LOAD, rig, 21);
        due("its HTVAL", rig.told(Rig.HTVAL), 0xfffff004 >>> 2);
    }

    // Outside

    private void outside() {
        says("A place of an entry, or a result, that is no byte of memory is exception 1 (fetch), 5 (load), "
            + "7 (store), by what was asked for.");
        int[] causes = {1, 5, 7};
        for (int i = 0; i < TOUCHES.length; i++) {
            Tables.Touch touch = TOUCHES[i];
            touch("a result", touch, ofS(entry(64, ALL)), causes[i]);
            touch("a result of 34 bits", touch, ofS(entry(0x100000 | FRAME, ALL)), causes[i]);
            touch("the farthest result", touch, ofS(entry(0x3fffff, ALL)), causes[i]);
            touch("a table", touch, withFirst(entry(64, V)), causes[i]);
            touch("a table of 34 bits", touch, withFirst(entry(0x100000 | Tables.S_TABLE, V)), causes[i]);
            touch("a result that is not allowed", touch, ofS(entry(64, ALL & ~A)), touch.fault);
            touch("VS, a result", touch, ofVs(entry(64, ALL), 0), causes[i]);
            Rig rig = ofVs(leaf(ALL), 0).words(Tables.place(Tables.VS_ROOT, 1), entry(64, V))
                .register(6, 0x400000 | PAGE);
            touch("VS, a table", touch, rig, causes[i]);
            rig = ofVs(0, entry(64, ALL | USER));
            touch("second stage, a result", touch, rig, causes[i]);
            due("HTVAL", rig.told(Rig.HTVAL), 0);
            rig = ofVs(0, leaf(ALL | USER)).words(Tables.place(Tables.H_ROOT, 1), entry(64, V))
                .register(6, 0x400000 | PAGE);
            touch("second stage, a table", touch, rig, causes[i]);
            rig = entriesBy(V | R | A | USER).words(Tables.place(Tables.H_TABLE, SPARE), entry(64, V | R | A | USER));
            touch("an entry's place by the second stage", touch, rig, causes[i]);
            due("HTVAL", rig.told(Rig.HTVAL), 0);
            due("HTINST", rig.told(Rig.HTINST), 0);
            rig = ofVs(middle(ALL), entry(64, ALL | USER));
            touch("the result's result", touch, rig, causes[i]);
        }
        for (int root : new int[] {64, 0x100000 | Tables.S_ROOT, 0x3fffff}) {
            touch("a root", FETCH, ofS(leaf(ALL)).control(Rig.ATP, ON | root), 1);
            touch("VS, a root", FETCH, ofVs(leaf(ALL), 0).control(Rig.VATP, ON | root), 1);
            touch("second stage, a root", FETCH, ofVs(0, leaf(ALL | USER)).control(Rig.HGATP, ON | root | 0x40), 1);
        }
        // S loads as VS does, so that the fetch is no matter.
        Rig rig = ofVs(leaf(ALL), 0).control(Rig.VATP, ON | 64).control(Rig.HSTATUS, Rig.SPVP).place(Rig.AT, Rig.S);
        trapped("a root for a load", rig.step(Asm.guestLoad(52, 0, 5, 6)), 5, PAGE);
        rig = ofVs(0, leaf(ALL | USER)).control(Rig.HGATP, ON | 64).control(Rig.HSTATUS, Rig.SPVP).place(Rig.AT, Rig.S);
        trapped("a root for a store", rig.step(Asm.guestStore(53, 7, 6)), 7, PAGE);
    }
}
