/** Machines with tables of translation. What is touched is PAGE, which the tables lead to FRAME. */
final class Tables {
    static final int V = 1;
    static final int R = 2;
    static final int W = 4;
    static final int X = 8;
    static final int USER = 16;
    static final int A = 64;
    static final int D = 128;
    static final int ALL = V | R | W | X | A | D;
    static final int ON = 1 << 31;

    // Code stands in frame 1, which every table shows as page 1.
    static final int PAGE = 5 * 4096;
    static final int FRAME = 7;
    /** What stands there: a number to load, and an instruction that puts FETCHED to x5. */
    static final int FETCHED = -9;
    static final int SEEN = Asm.add(5, 0, FETCHED);
    static final int STORED = 0x12345678;

    static final int S_ROOT = 8;
    static final int S_TABLE = 9;
    static final int VS_ROOT = 12;
    static final int VS_TABLE = 13;
    static final int H_ROOT = 16;
    static final int H_TABLE = 20;
    /** The page between both stages. */
    static final int MIDDLE = 6;
    static final int SPARE = 30;

    static final int LAST_WORD = FRAME * 4096 + 4092;

    private Tables() {
    }

    static int entry(int frame, int flags) {
        return frame << 10 | flags;
    }

    /** A leaf to what is touched. */
    static int leaf(int flags) {
        return entry(FRAME, flags);
    }

    /** Where entry i of the table in a frame stands. */
    static int place(int frame, int i) {
        return 4096 * frame + 4 * i;
    }

    private static int userOf(int mode) {
        return mode == Rig.U || mode == Rig.VU ? USER : 0;
    }

    private static Rig touching(int mode) {
        return Rig.in(mode).words(FRAME * 4096, SEEN).register(6, PAGE).register(7, STORED);
    }

    /** U or S with tables, and one leaf for the page that is touched. */
    static Rig oneStage(int mode, int leaf) {
        Rig rig = touching(mode).words(place(S_ROOT, 0), entry(S_TABLE, V)).words(place(S_TABLE, 5), leaf);
        return rig.words(place(S_TABLE, 1), entry(1, ALL | userOf(mode))).control(Rig.ATP, ON | S_ROOT);
    }

    /** VU or VS with the first stage's leaf, the second stage's, or both; 0 leaves a stage off. */
    static Rig guest(int mode, int first, int second) {
        Rig rig = touching(mode);
        if (first != 0) {
            rig.words(place(VS_ROOT, 0), entry(VS_TABLE, V)).words(place(VS_TABLE, 5), first);
            rig.words(place(VS_TABLE, 1), entry(1, ALL | userOf(mode))).control(Rig.VATP, ON | VS_ROOT);
        }
        if (second != 0) {
            rig.words(place(H_ROOT, 0), entry(H_TABLE, V)).words(place(H_TABLE, 1), entry(1, ALL | USER));
            rig.words(place(H_TABLE, VS_ROOT), entry(VS_ROOT, V | R | A | USER), entry(VS_TABLE, V | R | A | USER));
            rig.words(place(H_TABLE, first == 0 ? 5 : MIDDLE), second).control(Rig.HGATP, ON | H_ROOT);
        }
        return rig;
    }

    /** The first stage's leaf to the page between both stages. */
    static int middle(int flags) {
        return entry(MIDDLE, flags);
    }

    /** S at the last word of all addresses, which is LAST_WORD of memory. */
    static Rig lastPage() {
        Rig rig = Rig.in(Rig.S).words(place(S_ROOT, 1023), entry(S_TABLE, V)).words(place(S_TABLE, 1023), leaf(ALL));
        return rig.control(Rig.ATP, ON | S_ROOT).place(-4, Rig.S);
    }

    /** How an address is touched. */
    enum Touch {
        FETCH(12, 20, 1), LOAD(13, 21, 5), STORE(15, 23, 7);

        /** Its exceptions: of the first stage, of the second stage, outside of memory. */
        final int fault;
        final int second;
        final int outside;

        Touch(int fault, int second, int outside) {
            this.fault = fault;
            this.second = second;
            this.outside = outside;
        }

        /** One step that touches the address in x6. */
        Rig step(Rig rig) {
            if (this == FETCH) {
                return rig.place(rig.x(6), rig.mode()).run(1);
            }
            return rig.words(Rig.AT, this == LOAD ? Asm.load(2, 5, 6, 0) : Asm.store(2, 7, 6, 0)).run(1);
        }

        /** Whether the last step has touched the word at a place of memory, where SEEN stood. */
        boolean reached(Rig rig, int place) {
            return this == STORE ? rig.word(place) == STORED : rig.x(5) == (this == LOAD ? SEEN : FETCHED);
        }
    }
}
