/** Each sentence of "Actions and history", "Errors", promises 1, 3 to 9 and 14, at its edges. */
public final class ActionsEdgeTest {
    private static final String HISTORY = "Actions and history";
    private static final String ERRORS = "Errors";
    private static final String NEW_OBJECT = "Promise 1: A new object";
    private static final String START = "Promise 3: start";
    private static final String HALT = "Promise 4: halt";
    private static final String SET_REGISTER = "Promise 5: setRegister";
    private static final String SET_WORD = "Promise 6: setWord";
    private static final String SET_SLOT = "Promise 7: setSlot";
    private static final String SET = "Promise 8: set";
    private static final String SET_BREAKPOINT = "Promise 9: setBreakpoint";
    private static final String UNDO = "Promise 14: undo";
    private static final int NO_SUCH = BarrelProcessor.NO_SUCH;
    private static final int BAD_VALUE = BarrelProcessor.BAD_VALUE;
    private static final int BAD_TEXT = BarrelProcessor.BAD_TEXT;
    private static final int TOO_MANY = BarrelProcessor.TOO_MANY;
    private static final int NONE = BarrelProcessor.NONE;
    private static final int LATENCY = BarrelProcessor.LATENCY;
    private static final int LEND = BarrelProcessor.LEND;
    private static final int HALTED = BarrelProcessor.HALTED;
    private static final int READY = BarrelProcessor.READY;
    private static final int LOADING = BarrelProcessor.LOADING;
    private static final int AT_BARRIER = BarrelProcessor.AT_BARRIER;
    private static final int LOWEST = -32768;
    private static final int HIGHEST = 32767;
    private static final Check CHECK = new Check("ActionsEdgeTest");
    private static final Document DOC = new Document(CHECK, HISTORY, NEW_OBJECT, START, HALT,
            SET_REGISTER, SET_WORD, SET_SLOT, SET, SET_BREAKPOINT, UNDO);

    /** An action with its name. */
    private record Action(String name, Busy.Call call) {
    }

    /** The text of the processors on which the actions below act. */
    private static final String TEXT = "s3=-99;j47";
    /** Each action at the edges of its ranges, so that it changes something. */
    private static final Action[] ACTIONS = {
        new Action("assemble(0)", x -> x.assemble(0)),
        new Action("assemble(46)", x -> x.assemble(46)),
        new Action("start(0, 47)", x -> x.start(0, 47)),
        new Action("start(1, 0)", x -> x.start(1, 0)),
        new Action("start(2, 0)", x -> x.start(2, 0)),
        new Action("start(3, 47)", x -> x.start(3, 47)),
        new Action("halt(0)", x -> x.halt(0)),
        new Action("halt(1)", x -> x.halt(1)),
        new Action("halt(2)", x -> x.halt(2)),
        new Action("setRegister(0, 0, 32767)", x -> x.setRegister(0, 0, HIGHEST)),
        new Action("setRegister(3, 3, -32768)", x -> x.setRegister(3, 3, LOWEST)),
        new Action("setWord(0, 32767)", x -> x.setWord(0, HIGHEST)),
        new Action("setWord(31, -32768)", x -> x.setWord(31, LOWEST)),
        new Action("setSlot(0, 3)", x -> x.setSlot(0, 3)),
        new Action("setSlot(7, 0)", x -> x.setSlot(7, 0)),
        new Action("set(LATENCY, 20)", x -> x.set(LATENCY, 20)),
        new Action("set(LEND, 0)", x -> x.set(LEND, 0)),
        new Action("setBreakpoint(0, true)", x -> x.setBreakpoint(0, true)),
        new Action("setBreakpoint(47, true)", x -> x.setBreakpoint(47, true)),
        new Action("run(1)", x -> x.run(1)),
        new Action("run(200)", x -> x.run(200))};
    /** Each action so that it changes nothing, on a processor with the text h and no thread. */
    private static final Action[] IDLE_ACTIONS = {
        new Action("assemble", x -> x.assemble(40)),
        new Action("halt", x -> x.halt(1)),
        new Action("setRegister", x -> x.setRegister(2, 3, 0)),
        new Action("setWord", x -> x.setWord(2, 0)),
        new Action("setSlot", x -> x.setSlot(7, 3)),
        new Action("set", x -> x.set(LATENCY, 3)),
        new Action("setBreakpoint", x -> x.setBreakpoint(9, false)),
        new Action("run", x -> x.run(9))};

    public static void main(String[] args) {
        newObjectIsEmpty();
        startTakesEachThreadAndPlace();
        startWhateverItIsDoing();
        startMakesTheWaitingLongest();
        startKeepsCounters();
        startRefusesOthers();
        haltWhateverItIsDoing();
        haltEndsALoad();
        haltRefusesOthers();
        setRegisterTakesItsRanges();
        setRegisterRefusesOthers();
        setRegisterRefusesOtherValues();
        setWordTakesItsRanges();
        setWordRefusesOthers();
        setWordRefusesOtherValues();
        setSlotTakesItsRanges();
        setSlotRefusesOthers();
        setTakesItsRanges();
        setRefusesOtherSettings();
        setRefusesOtherValues();
        setBreakpointCounts();
        setBreakpointRefusesOthers();
        undoOfAnEmptyHistory();
        undoRestoresAndRemoves();
        undoKeepsTheText();
        eachActionIsRecorded();
        stateThatIsRestored();
        loadThatIsRestored();
        traceThatIsRestored();
        actionsThatChangeNothingAreRecorded();
        fifthStateDropsTheOldest();
        codesLieBelowAllValues();
        theConstants();
        errorCodesInTheirOrder();
        refusalsOnAFullHistory();
        DOC.finish();
        CHECK.finish();
    }

    private static void newObjectIsEmpty() {
        DOC.says(NEW_OBJECT, "Creates a processor whose four threads are halted, with an empty "
                + "text and an empty history.");
        BarrelProcessor x = new BarrelProcessor();
        for (int thread = 0; thread < 4; thread++) {
            CHECK.due("state", x.state(thread), HALTED);
        }
        CHECK.due("fault", x.fault(), 0);
        CHECK.due("clearText", x.clearText(), 0);
        CHECK.due("undo", x.undo(), NONE);
        CHECK.due("run", x.run(200), 0);
    }

    private static void startTakesEachThreadAndPlace() {
        DOC.says(START, "- `thread`: 0 to 3", "- `place`: 0 to 47");
        for (int thread = 0; thread < 4; thread++) {
            for (int place = 0; place <= 47; place++) {
                BarrelProcessor x = new BarrelProcessor();
                CHECK.due("start", x.start(thread, place), HALTED);
                CHECK.due("state", x.state(thread), READY);
                CHECK.due("programCounter", x.programCounter(thread), place);
                for (int other = 0; other < 4; other++) {
                    if (other != thread) {
                        CHECK.due("state of another", x.state(other), HALTED);
                        CHECK.due("counter of another", x.programCounter(other), 0);
                    }
                }
            }
        }
    }

    private static void startWhateverItIsDoing() {
        DOC.says(START, "Starts a thread, whatever it is doing: its registers become 0, its "
                + "program counter becomes the place, it is ready, and it has not been the issuing "
                + "thread since it was started.", "Returns the state that the thread had;");
        int[] states = {READY, LOADING, AT_BARRIER, HALTED};
        for (int thread = 0; thread < 4; thread++) {
            BarrelProcessor x = Busy.make();
            for (int register = 0; register < 4; register++) {
                x.setRegister(thread, register, register == 0 ? HIGHEST : LOWEST);
            }
            CHECK.due("start", x.start(thread, 47), states[thread]);
            CHECK.due("state", x.state(thread), READY);
            CHECK.due("programCounter", x.programCounter(thread), 47);
            for (int register = 0; register < 4; register++) {
                CHECK.due("register", x.register(thread, register), 0);
            }
            x.run(60);
            CHECK.due("a load from before the start", x.register(thread, 1), 0);
            CHECK.due("state after the HALT at 47", x.state(thread), HALTED);
        }
    }

    private static void startMakesTheWaitingLongest() {
        DOC.says(START, "and it has not been the issuing thread since it was started.");
        BarrelProcessor x = Check.with("j0");
        x.set(LEND, 2);
        x.setSlot(6, 1);
        x.start(0, 0);
        x.start(2, 0);
        x.start(3, 0);
        x.run(5);
        // The slot 5 is one of thread 1: 2 has waited since the cycle 2, 3 since the cycle 3.
        CHECK.due("nextThread", x.nextThread(), 2);
        x.start(3, 0);
        CHECK.due("nextThread after a start of 3", x.nextThread(), 3);
        x.start(2, 0);
        CHECK.due("nextThread after a start of 2", x.nextThread(), 2);
        x.start(0, 0);
        CHECK.due("nextThread after a start of 0", x.nextThread(), 0);
    }

    private static void startKeepsCounters() {
        DOC.says(START, "Its counters stay.");
        BarrelProcessor x = Check.with("j0");
        x.set(LEND, 1);
        x.start(2, 0);
        x.run(3);
        x.set(LEND, 0);
        x.run(3);
        String before = counters(x, 2);
        CHECK.dueText("executed, lent and starved", before, "3 2 3");
        x.start(2, 0);
        CHECK.dueText("executed, lent and starved after a start", counters(x, 2), before);
        CHECK.due("cycle", x.cycle(), 6);
        CHECK.due("idle", x.idle(), 3);
        CHECK.due("trace(0, 1)", x.trace(0, 1), 2);
    }

    private static String counters(BarrelProcessor x, int thread) {
        return x.executed(thread) + " " + x.lent(thread) + " " + x.starved(thread);
    }

    private static void startRefusesOthers() {
        DOC.says(START, "NO_SUCH if there is no such thread or place.");
        Busy.refusesOutside(CHECK, "start at 0", 0, 3, (x, thread) -> x.start(thread, 0), NO_SUCH);
        Busy.refusesOutside(CHECK, "start at 47", 0, 3, (x, thread) -> x.start(thread, 47),
                NO_SUCH);
        Busy.refusesOutside(CHECK, "start of 0", 0, 47, (x, place) -> x.start(0, place), NO_SUCH);
        Busy.refusesOutside(CHECK, "start of 3", 0, 47, (x, place) -> x.start(3, place), NO_SUCH);
        Busy.leaves(CHECK, "start(4, 48)", x -> x.start(4, 48), NO_SUCH);
    }

    private static void haltWhateverItIsDoing() {
        DOC.says(HALT, "Halts a thread, whatever it is doing.", "- `thread`: 0 to 3",
                "Returns the state that the thread had;");
        int[] states = {READY, LOADING, AT_BARRIER, HALTED};
        for (int thread = 0; thread < 4; thread++) {
            BarrelProcessor x = Busy.make();
            int place = x.programCounter(thread);
            x.setRegister(thread, 2, 22);
            CHECK.due("halt", x.halt(thread), states[thread]);
            for (int other = 0; other < 4; other++) {
                CHECK.due("state of " + other, x.state(other),
                        other == thread ? HALTED : states[other]);
            }
            CHECK.due("programCounter", x.programCounter(thread), place);
            CHECK.due("register", x.register(thread, 2), 22);
            CHECK.due("halt once more", x.halt(thread), HALTED);
        }
    }

    private static void haltEndsALoad() {
        DOC.says(HALT, "(A load that it has not finished is not finished.)");
        for (int cycles = 1; cycles <= 3; cycles++) {
            BarrelProcessor x = Check.with("l01;j1");
            x.set(LATENCY, 2);
            x.setWord(0, 50);
            x.start(0, 0);
            x.start(3, 1);
            x.setRegister(0, 0, 7);
            x.run(cycles);
            CHECK.due("halt after " + cycles, x.halt(0), LOADING);
            x.run(30);
            CHECK.due("register", x.register(0, 0), 7);
            CHECK.due("state", x.state(0), HALTED);
        }
    }

    private static void haltRefusesOthers() {
        DOC.says(HALT, "NO_SUCH if there is no such thread.");
        Busy.refusesOutside(CHECK, "halt", 0, 3, (x, thread) -> x.halt(thread), NO_SUCH);
    }

    private static void setRegisterTakesItsRanges() {
        DOC.says(SET_REGISTER, "Sets a register of a thread.", "- `thread`: 0 to 3",
                "- `register`: 0 to 3", "- `value`: -32768 to 32767",
                "Returns the previous value;");
        for (int thread = 0; thread < 4; thread++) {
            for (int register = 0; register < 4; register++) {
                BarrelProcessor x = new BarrelProcessor();
                CHECK.due("setRegister", x.setRegister(thread, register, LOWEST), 0);
                CHECK.due("setRegister", x.setRegister(thread, register, HIGHEST), LOWEST);
                CHECK.due("setRegister", x.setRegister(thread, register, -1), HIGHEST);
                for (int other = 0; other < 16; other++) {
                    CHECK.due("register", x.register(other / 4, other % 4),
                            other == 4 * thread + register ? -1 : 0);
                }
            }
        }
    }

    private static void setRegisterRefusesOthers() {
        DOC.says(SET_REGISTER, "NO_SUCH if there is no such thread or register;");
        int[] values = {0, LOWEST - 1, HIGHEST + 1};
        for (int value : values) {
            Busy.refusesOutside(CHECK, "setRegister", 0, 3,
                    (x, thread) -> x.setRegister(thread, 0, value), NO_SUCH);
            Busy.refusesOutside(CHECK, "setRegister of 0", 0, 3,
                    (x, register) -> x.setRegister(0, register, value), NO_SUCH);
            Busy.refusesOutside(CHECK, "setRegister of 3", 0, 3,
                    (x, register) -> x.setRegister(3, register, value), NO_SUCH);
        }
    }

    private static void setRegisterRefusesOtherValues() {
        DOC.says(SET_REGISTER, "BAD_VALUE if value is out of range.");
        for (int thread = 0; thread < 4; thread += 3) {
            int one = thread;
            Busy.refusesOutside(CHECK, "setRegister of " + thread, LOWEST, HIGHEST,
                    (x, value) -> x.setRegister(one, one, value), BAD_VALUE);
        }
    }

    private static void setWordTakesItsRanges() {
        DOC.says(SET_WORD, "Sets a word of the data memory.", "- `word`: 0 to 31",
                "- `value`: -32768 to 32767", "Returns the previous value;");
        for (int word = 0; word < 32; word++) {
            BarrelProcessor x = new BarrelProcessor();
            CHECK.due("setWord", x.setWord(word, LOWEST), 0);
            CHECK.due("setWord", x.setWord(word, HIGHEST), LOWEST);
            CHECK.due("setWord", x.setWord(word, -1), HIGHEST);
            for (int other = 0; other < 32; other++) {
                CHECK.due("word", x.word(other), other == word ? -1 : 0);
            }
        }
    }

    private static void setWordRefusesOthers() {
        DOC.says(SET_WORD, "NO_SUCH if there is no such word;");
        int[] values = {0, LOWEST - 1, HIGHEST + 1};
        for (int value : values) {
            Busy.refusesOutside(CHECK, "setWord", 0, 31, (x, word) -> x.setWord(word, value),
                    NO_SUCH);
        }
    }

    private static void setWordRefusesOtherValues() {
        DOC.says(SET_WORD, "BAD_VALUE if value is out of range.");
        for (int word = 0; word < 32; word += 31) {
            int one = word;
            Busy.refusesOutside(CHECK, "setWord of " + word, LOWEST, HIGHEST,
                    (x, value) -> x.setWord(one, value), BAD_VALUE);
        }
    }

    private static void setSlotTakesItsRanges() {
        DOC.says(SET_SLOT, "Gives a slot of the table to a thread.", "- `slot`: 0 to 7",
                "- `thread`: 0 to 3", "Returns the thread that had the slot;");
        for (int slot = 0; slot < 8; slot++) {
            BarrelProcessor x = new BarrelProcessor();
            CHECK.due("setSlot", x.setSlot(slot, 0), slot % 4);
            CHECK.due("setSlot", x.setSlot(slot, 3), 0);
            CHECK.due("setSlot", x.setSlot(slot, 3), 3);
            for (int other = 0; other < 8; other++) {
                CHECK.due("slot", x.slot(other), other == slot ? 3 : other % 4);
            }
        }
    }

    private static void setSlotRefusesOthers() {
        DOC.says(SET_SLOT, "NO_SUCH if there is no such slot or thread.");
        Busy.refusesOutside(CHECK, "setSlot to 0", 0, 7, (x, slot) -> x.setSlot(slot, 0), NO_SUCH);
        Busy.refusesOutside(CHECK, "setSlot to 3", 0, 7, (x, slot) -> x.setSlot(slot, 3), NO_SUCH);
        Busy.refusesOutside(CHECK, "setSlot of 0", 0, 3, (x, thread) -> x.setSlot(0, thread),
                NO_SUCH);
        Busy.refusesOutside(CHECK, "setSlot of 7", 0, 3, (x, thread) -> x.setSlot(7, thread),
                NO_SUCH);
    }

    private static void setTakesItsRanges() {
        DOC.says(SET, "Changes a setting.", "- `setting`: LATENCY or LEND",
                "- `value`: the new value", "Returns the previous value;");
        BarrelProcessor x = new BarrelProcessor();
        int before = 3;
        for (int latency = 20; latency >= 0; latency--) {
            CHECK.due("set(LATENCY, " + latency + ")", x.set(LATENCY, latency), before);
            CHECK.due("setting(LATENCY)", x.setting(LATENCY), latency);
            CHECK.due("setting(LEND)", x.setting(LEND), 0);
            before = latency;
        }
        before = 0;
        for (int lend = 2; lend >= 0; lend--) {
            CHECK.due("set(LEND, " + lend + ")", x.set(LEND, lend), before);
            CHECK.due("setting(LEND)", x.setting(LEND), lend);
            CHECK.due("setting(LATENCY)", x.setting(LATENCY), 0);
            before = lend;
        }
    }

    private static void setRefusesOtherSettings() {
        DOC.says(SET, "NO_SUCH if there is no such setting;");
        int[] values = {0, 2, 20, -1, 21};
        for (int value : values) {
            Busy.refusesOutside(CHECK, "set", 0, 1, (x, setting) -> x.set(setting, value),
                    NO_SUCH);
        }
    }

    private static void setRefusesOtherValues() {
        DOC.says(SET, "BAD_VALUE if value is out of the range of the setting.");
        Busy.refusesOutside(CHECK, "set(LATENCY)", 0, 20, (x, value) -> x.set(LATENCY, value),
                BAD_VALUE);
        Busy.refusesOutside(CHECK, "set(LEND)", 0, 2, (x, value) -> x.set(LEND, value), BAD_VALUE);
        Busy.leaves(CHECK, "set(LEND, 20)", x -> x.set(LEND, 20), BAD_VALUE);
    }

    private static void setBreakpointCounts() {
        DOC.says(SET_BREAKPOINT, "Sets or removes a breakpoint.", "- `place`: 0 to 47",
                "- `isSet`: whether the place has a breakpoint afterwards",
                "Returns the number of places that have a breakpoint afterwards;");
        BarrelProcessor x = new BarrelProcessor();
        CHECK.due("setBreakpoint(0, false) of none", x.setBreakpoint(0, false), 0);
        for (int place = 0; place < 48; place++) {
            CHECK.due("setBreakpoint(" + place + ", true)", x.setBreakpoint(place, true),
                    place + 1);
            CHECK.due("setBreakpoint again", x.setBreakpoint(place, true), place + 1);
            CHECK.due("breakpoint", x.breakpoint(place), 1);
        }
        for (int place = 47; place >= 0; place--) {
            CHECK.due("setBreakpoint(" + place + ", false)", x.setBreakpoint(place, false), place);
            CHECK.due("setBreakpoint again", x.setBreakpoint(place, false), place);
            CHECK.due("breakpoint", x.breakpoint(place), 0);
        }
    }

    private static void setBreakpointRefusesOthers() {
        DOC.says(SET_BREAKPOINT, "NO_SUCH if there is no such place.");
        Busy.refusesOutside(CHECK, "setBreakpoint to true", 0, 47,
                (x, place) -> x.setBreakpoint(place, true), NO_SUCH);
        Busy.refusesOutside(CHECK, "setBreakpoint to false", 0, 47,
                (x, place) -> x.setBreakpoint(place, false), NO_SUCH);
    }

    private static void undoOfAnEmptyHistory() {
        DOC.says(UNDO, "NONE if the history is empty.");
        BarrelProcessor x = new BarrelProcessor();
        CHECK.due("undo of a new object", x.undo(), NONE);
        x.setWord(4, 40);
        CHECK.due("undo", x.undo(), 0);
        CHECK.due("undo of the empty history", x.undo(), NONE);
        CHECK.due("word", x.word(4), 0);
        CHECK.due("undo once more", x.undo(), NONE);
        x.setWord(4, 41);
        CHECK.due("undo of an action after that", x.undo(), 0);
        for (int word = 0; word < 9; word++) {
            x.setWord(word, 50);
        }
        for (int left = 3; left >= 0; left--) {
            CHECK.due("undo", x.undo(), left);
        }
        CHECK.due("undo of the empty history", x.undo(), NONE);
        CHECK.due("a word that was set before", x.word(4), 50);
        CHECK.due("a word that was set later", x.word(5), 0);
    }

    private static void undoRestoresAndRemoves() {
        DOC.says(UNDO, "Restores the latest state of the history and removes it from the history.",
                "Returns the number of states that are left in the history;");
        BarrelProcessor x = new BarrelProcessor();
        for (int value = 1; value <= 4; value++) {
            x.setWord(31, value);
        }
        for (int left = 3; left >= 0; left--) {
            CHECK.due("undo", x.undo(), left);
            CHECK.due("word", x.word(31), left);
        }
        x.setWord(31, 10);
        x.setWord(31, 11);
        CHECK.due("undo is not recorded", x.undo(), 1);
        CHECK.due("undo goes on from there", x.undo(), 0);
        CHECK.due("word", x.word(31), 0);
    }

    private static void undoKeepsTheText() {
        DOC.says(UNDO, "The text does not change.");
        DOC.says(HISTORY, "The text and the history are not part of the state.");
        BarrelProcessor x = new BarrelProcessor();
        Check.type(x, "b");
        x.assemble(0);
        x.append(';');
        x.start(0, 0);
        x.append('h');
        CHECK.due("undo", x.undo(), 1);
        CHECK.due("fault", x.fault(), NONE);
        CHECK.due("undo", x.undo(), 0);
        CHECK.due("fault", x.fault(), NONE);
        CHECK.due("assemble", x.assemble(0), 2);
        x.clearText();
        CHECK.due("undo", x.undo(), 0);
        CHECK.due("the text stays empty", x.clearText(), 0);
    }

    private static void eachActionIsRecorded() {
        DOC.says(HISTORY, "The actions are assemble, start, halt, setRegister, setWord, setSlot, "
                + "set, setBreakpoint and run.");
        for (Action action : ACTIONS) {
            BarrelProcessor x = Busy.make(TEXT);
            int answer = (int) action.call().on(x);
            CHECK.due(action.name() + " is no error", answer < LOWEST ? 1 : 0, 0);
            CHECK.due("undo of " + action.name(), x.undo(), 3);
            CHECK.dueText("the state after undo of " + action.name(), Check.stateOf(x),
                    Check.stateOf(Busy.make(TEXT)));
        }
        BarrelProcessor x = new BarrelProcessor();
        x.append('h');
        x.fault();
        x.clearText();
        x.undo();
        x.cyclesLeft();
        x.bestLend();
        CHECK.due("other calls are not recorded", x.undo(), NONE);
    }

    private static void stateThatIsRestored() {
        DOC.says(HISTORY, "The state consists of the threads with their registers, the memories, "
                + "the number of the next cycle, the table of slots, the settings, the "
                + "breakpoints, the counters and the trace.");
        for (Action action : ACTIONS) {
            for (int cycles = 1; cycles <= 40; cycles += 13) {
                BarrelProcessor x = Busy.make(TEXT);
                BarrelProcessor untouched = Busy.make(TEXT);
                action.call().on(x);
                x.undo();
                CHECK.due("run after undo", x.run(cycles), untouched.run(cycles));
                CHECK.dueText("the state after undo of " + action.name() + " and a run",
                        Check.stateOf(x), Check.stateOf(untouched));
            }
        }
    }

    /** A load that has begun since does not take the place of the one that was on its way. */
    private static void loadThatIsRestored() {
        DOC.says(HISTORY, "The state consists of the threads with their registers,");
        BarrelProcessor x = Check.with("l31;h;l02;h");
        x.set(LATENCY, 2);
        x.setWord(9, 90);
        x.start(0, 0);
        x.setRegister(0, 1, 9);
        x.run(1);
        x.start(0, 2);
        x.set(LATENCY, 9);
        x.run(7);
        x.undo();
        x.undo();
        CHECK.due("undo of the start", x.undo(), 1);
        CHECK.due("state", x.state(0), LOADING);
        CHECK.due("run(200), with its own latency", x.run(200), 4);
        CHECK.due("register, of its own number", x.register(0, 3), 90);
        CHECK.due("register of the other load", x.register(0, 0), 0);
    }

    private static void traceThatIsRestored() {
        DOC.says(HISTORY, "the counters and the trace.");
        for (int cycles = 1; cycles <= 40; cycles++) {
            BarrelProcessor x = Check.with("a00;a00;j0");
            x.set(LEND, 1);
            x.start(2, 0);
            x.run(21);
            x.run(cycles);
            x.undo();
            for (int ago = 0; ago < 16; ago++) {
                CHECK.due("trace(" + ago + ", 0)", x.trace(ago, 0), 20 - ago);
                CHECK.due("trace(" + ago + ", 1)", x.trace(ago, 1), 2);
                CHECK.due("trace(" + ago + ", 2)", x.trace(ago, 2), (20 - ago) % 3);
            }
            CHECK.due("trace(16, 0)", x.trace(16, 0), NONE);
            CHECK.due("executed", x.executed(2), 21);
            CHECK.due("lent", x.lent(2), 16);
            CHECK.due("idle", x.idle(), 0);
            CHECK.due("cycle", x.cycle(), 21);
        }
    }

    private static void actionsThatChangeNothingAreRecorded() {
        DOC.says(HISTORY, "Each action that returns no error code records the state before it in "
                + "the history, even if the action changes nothing.");
        for (Action action : IDLE_ACTIONS) {
            BarrelProcessor x = new BarrelProcessor();
            Check.type(x, "h");
            action.call().on(x);
            action.call().on(x);
            CHECK.dueText("the state after " + action.name(), Check.stateOf(x),
                    Check.stateOf(new BarrelProcessor()));
            CHECK.due("undo of " + action.name(), x.undo(), 1);
            CHECK.due("undo of " + action.name(), x.undo(), 0);
            CHECK.due("undo of no action", x.undo(), NONE);
        }
        BarrelProcessor x = new BarrelProcessor();
        x.start(2, 0);
        x.start(2, 0);
        CHECK.due("undo of a start that changes nothing", x.undo(), 1);
        CHECK.due("state", x.state(2), READY);
    }

    private static void fifthStateDropsTheOldest() {
        DOC.says(HISTORY, "The history holds at most 4 states;",
                "when a fifth state is recorded, the oldest one is dropped.");
        for (int actions = 1; actions <= 13; actions++) {
            BarrelProcessor x = new BarrelProcessor();
            for (int value = 1; value <= actions; value++) {
                x.setRegister(3, 3, value);
            }
            int kept = Math.min(4, actions);
            for (int left = kept - 1; left >= 0; left--) {
                CHECK.due("undo after " + actions, x.undo(), left);
                CHECK.due("register", x.register(3, 3), actions - kept + left);
            }
            CHECK.due("undo of the empty history", x.undo(), NONE);
            CHECK.due("register", x.register(3, 3), actions - kept);
        }
    }

    private static void codesLieBelowAllValues() {
        DOC.says(ERRORS, "(Registers and words can have the same values as error codes; the error "
                + "codes are below their range.)", "NONE is not an error code.");
        int[] codes = {NO_SUCH, BAD_VALUE, BAD_TEXT, TOO_MANY, NONE};
        for (int code : codes) {
            BarrelProcessor x = new BarrelProcessor();
            CHECK.due("setRegister to " + code, x.setRegister(0, 0, code), BAD_VALUE);
            CHECK.due("setWord to " + code, x.setWord(0, code), BAD_VALUE);
            CHECK.due("below the range", code < LOWEST ? 1 : 0, 1);
        }
    }

    private static void theConstants() {
        DOC.says(ERRORS, "`NO_SUCH = -100001`: There is no such thread, register, word, place, "
                + "slot or setting.", "`BAD_VALUE = -100002`: Another argument is out of its "
                + "range.", "`BAD_TEXT = -100003`: The text has a fault.", "`TOO_MANY = -100004`: "
                + "There is no more room.", "`NONE = -100005`: There is no result;",
                "`LATENCY = 0, LEND = 1`: The settings.",
                "`HALTED = 0, READY = 1, LOADING = 2, AT_BARRIER = 3`: The states of a thread.");
        CHECK.due("NO_SUCH", NO_SUCH, -100001);
        CHECK.due("BAD_VALUE", BAD_VALUE, -100002);
        CHECK.due("BAD_TEXT", BAD_TEXT, -100003);
        CHECK.due("TOO_MANY", TOO_MANY, -100004);
        CHECK.due("NONE", NONE, -100005);
        CHECK.due("LATENCY", LATENCY, 0);
        CHECK.due("LEND", LEND, 1);
        CHECK.due("HALTED", HALTED, 0);
        CHECK.due("READY", READY, 1);
        CHECK.due("LOADING", LOADING, 2);
        CHECK.due("AT_BARRIER", AT_BARRIER, 3);
    }

    private static void errorCodesInTheirOrder() {
        DOC.says(ERRORS, "The error codes of a method are listed in the order in which they are "
                + "checked, and the first one that applies is returned.");
        BarrelProcessor x = Check.with("h;h");
        CHECK.due("assemble: TOO_MANY alone", x.assemble(47), TOO_MANY);
        x.append(';');
        CHECK.due("assemble: BAD_TEXT before TOO_MANY", x.assemble(47), BAD_TEXT);
        CHECK.due("assemble: NO_SUCH before BAD_TEXT", x.assemble(48), NO_SUCH);
        CHECK.due("setRegister: the thread", x.setRegister(4, 0, HIGHEST + 1), NO_SUCH);
        CHECK.due("setRegister: the register", x.setRegister(0, -1, LOWEST - 1), NO_SUCH);
        CHECK.due("setRegister: all", x.setRegister(-1, 4, HIGHEST + 1), NO_SUCH);
        CHECK.due("setWord", x.setWord(32, HIGHEST + 1), NO_SUCH);
        CHECK.due("set", x.set(2, -1), NO_SUCH);
        CHECK.due("operand: NO_SUCH before BAD_VALUE", x.operand(48, 2), NO_SUCH);
        CHECK.due("operand: BAD_VALUE before NONE", x.operand(47, 2), BAD_VALUE);
        CHECK.due("trace: BAD_VALUE before NONE", x.trace(99, 3), BAD_VALUE);
        x.start(0, 0);
        Check.type(x, "j2");
        x.assemble(2);
        x.start(0, 2);
        CHECK.due("cyclesIf: BAD_VALUE before NONE", x.cyclesIf(21, 0), BAD_VALUE);
        CHECK.due("finalWord: NO_SUCH before NONE", x.finalWord(32), NO_SUCH);
        for (int length = 2; length < 100; length++) {
            x.append('~');
        }
        CHECK.due("append: TOO_MANY alone", x.append(126), TOO_MANY);
        CHECK.due("append: BAD_VALUE before TOO_MANY", x.append(127), BAD_VALUE);
    }

    private static final Action[] REFUSALS = {
        new Action("assemble(48)", x -> x.assemble(48)),
        new Action("assemble(0)", x -> x.assemble(0)),
        new Action("start(4, 0)", x -> x.start(4, 0)),
        new Action("start(0, 48)", x -> x.start(0, 48)),
        new Action("halt(4)", x -> x.halt(4)),
        new Action("setRegister(0, 4, 0)", x -> x.setRegister(0, 4, 0)),
        new Action("setRegister(0, 0, 32768)", x -> x.setRegister(0, 0, 32768)),
        new Action("setWord(32, 0)", x -> x.setWord(32, 0)),
        new Action("setWord(0, 32768)", x -> x.setWord(0, 32768)),
        new Action("setSlot(8, 0)", x -> x.setSlot(8, 0)),
        new Action("setSlot(0, 4)", x -> x.setSlot(0, 4)),
        new Action("set(2, 0)", x -> x.set(2, 0)),
        new Action("set(0, 21)", x -> x.set(0, 21)),
        new Action("setBreakpoint(48, true)", x -> x.setBreakpoint(48, true)),
        new Action("run(0)", x -> x.run(0)),
        new Action("run(201)", x -> x.run(201)),
        new Action("append(31)", x -> x.append(31)),
        new Action("state(4)", x -> x.state(4)),
        new Action("programCounter(4)", x -> x.programCounter(4)),
        new Action("register(0, 4)", x -> x.register(0, 4)),
        new Action("word(32)", x -> x.word(32)),
        new Action("operation(48)", x -> x.operation(48)),
        new Action("operand(0, 2)", x -> x.operand(0, 2)),
        new Action("slot(8)", x -> x.slot(8)),
        new Action("setting(2)", x -> x.setting(2)),
        new Action("breakpoint(48)", x -> x.breakpoint(48)),
        new Action("executed(4)", x -> x.executed(4)),
        new Action("lent(4)", x -> x.lent(4)),
        new Action("starved(4)", x -> x.starved(4)),
        new Action("trace(-1, 0)", x -> x.trace(-1, 0)),
        new Action("cyclesIf(21, 0)", x -> x.cyclesIf(21, 0)),
        new Action("finalWord(32)", x -> x.finalWord(32))};

    /** A refusal that is recorded would drop the oldest of four states. */
    private static void refusalsOnAFullHistory() {
        DOC.says(ERRORS, "A method that returns an error code changes nothing.");
        for (Action refusal : REFUSALS) {
            BarrelProcessor x = new BarrelProcessor();
            Check.type(x, "h;");
            for (int value = 1; value <= 5; value++) {
                x.setWord(0, value);
            }
            int code = (int) refusal.call().on(x);
            CHECK.due(refusal.name() + " answers an error code",
                    code <= NO_SUCH && code >= TOO_MANY ? 1 : 0, 1);
            CHECK.due("word after " + refusal.name(), x.word(0), 5);
            for (int left = 3; left >= 0; left--) {
                CHECK.due("undo after " + refusal.name(), x.undo(), left);
                CHECK.due("word", x.word(0), left + 1);
            }
            CHECK.due("undo of the empty history", x.undo(), NONE);
            CHECK.due("length of the text", x.clearText(), 2);
        }
    }
}
