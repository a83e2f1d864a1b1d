/** A part of the document, with tests of what its sentences say. */
abstract class Section {
    static final int LEAST = Integer.MIN_VALUE;
    static final int MOST = Integer.MAX_VALUE;
    static final int ILLEGAL = 2;
    static final int VIRTUAL = 22;

    private final Checks checks;

    Section(Checks checks) {
        this.checks = checks;
    }

    abstract void run();

    void says(String words) {
        checks.says(words);
    }

    void due(String what, long got, long want) {
        checks.due(what, got, want);
    }

    void due(String what, boolean got, boolean want) {
        checks.due(what, got ? 1 : 0, want ? 1 : 0);
    }

    /** The rig's last step was a trap to S, its first. */
    void trapped(String what, Rig rig, int cause, int tval) {
        due(what + ": CAUSE", rig.told(Rig.CAUSE), cause);
        due(what + ": TVAL", rig.told(Rig.TVAL), tval);
        due(what + ": PC", rig.pc(), Rig.TVEC_AT);
        due(what + ": mode", rig.mode(), Rig.S);
        due(what + ": traps to S", rig.count(4), 1);
    }

    /** No step of the rig was a trap so far. */
    void untrapped(String what, Rig rig) {
        due(what + ": CAUSE", rig.told(Rig.CAUSE), Rig.NO_TRAP);
        due(what + ": VS CAUSE", rig.told(Rig.VCAUSE), Rig.NO_TRAP);
        due(what + ": traps", rig.count(4) + rig.count(5), 0);
    }

    /** One step with an instruction, in a mode: an exception of S, or NO_TRAP and on. */
    void outcome(String what, Rig rig, int word, int cause) {
        int pc = rig.pc();
        rig.step(word);
        if (cause == Rig.NO_TRAP) {
            untrapped(what, rig);
            due(what + ": PC", rig.pc(), pc + 4);
        } else {
            trapped(what, rig, cause, word);
            due(what + ": EPC", rig.told(Rig.EPC), pc);
        }
    }
}
