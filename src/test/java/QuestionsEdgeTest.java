/** Each sentence of promises 15 to 18 and 21 to 30 (what is and what was), at its edges. */
public final class QuestionsEdgeTest {
    private static final String STATE = "Promise 15: state";
    private static final String PROGRAM_COUNTER = "Promise 16: programCounter";
    private static final String REGISTER = "Promise 17: register";
    private static final String WORD = "Promise 18: word";
    private static final String SLOT = "Promise 21: slot";
    private static final String SETTING = "Promise 22: setting";
    private static final String BREAKPOINT = "Promise 23: breakpoint";
    private static final String CYCLE = "Promise 24: cycle";
    private static final String IDLE = "Promise 25: idle";
    private static final String EXECUTED = "Promise 26: executed";
    private static final String LENT = "Promise 27: lent";
    private static final String STARVED = "Promise 28: starved";
    private static final String TRACE = "Promise 29: trace";
    private static final String USE = "Promise 30: use";
    private static final int NO_SUCH = BarrelProcessor.NO_SUCH;
    private static final int BAD_VALUE = BarrelProcessor.BAD_VALUE;
    private static final int NONE = BarrelProcessor.NONE;
    private static final int LATENCY = BarrelProcessor.LATENCY;
    private static final int LEND = BarrelProcessor.LEND;
    private static final int HALTED = BarrelProcessor.HALTED;
    private static final int READY = BarrelProcessor.READY;
    private static final int LOADING = BarrelProcessor.LOADING;
    private static final int AT_BARRIER = BarrelProcessor.AT_BARRIER;
    private static final Check CHECK = new Check("QuestionsEdgeTest");
    private static final Document DOC = new Document(CHECK, STATE, PROGRAM_COUNTER, REGISTER, WORD,
            SLOT, SETTING, BREAKPOINT, CYCLE, IDLE, EXECUTED, LENT, STARVED, TRACE, USE);

    public static void main(String[] args) {
        stateOfEachThread();
        stateRefusesOthers();
        counterFromZeroToFortyEight();
        counterRefusesOthers();
        registerOfEachThread();
        registerRefusesOthers();
        wordOfEachNumber();
        wordRefusesOthers();
        slotOfEachNumber();
        slotRefusesOthers();
        settingOfBoth();
        settingRefusesOthers();
        breakpointOfEachPlace();
        breakpointRefusesOthers();
        cycleCountsThoseThatWereRun();
        idleCountsThoseWithoutIssuing();
        executedCountsEachIssue();
        executedRefusesOthers();
        lentCountsSlotsOfOthers();
        lentRefusesOthers();
        starvedIsTheGreatestSequence();
        starvedEndsWithAnIssue();
        starvedEndsWhenNotReady();
        starvedEndsWithAStart();
        starvedEndsWithAHalt();
        starvedRefusesOthers();
        traceTakesItsParts();
        traceRefusesOthers();
        traceHasNotSoMany();
        useOfNoCycle();
        useFromNoneToAll();
        questionsChangeNothing();
        DOC.finish();
        CHECK.finish();
    }

    private static void giveAllSlotsTo(BarrelProcessor x, int thread) {
        for (int slot = 0; slot < 8; slot++) {
            x.setSlot(slot, thread);
        }
    }

    private static void stateOfEachThread() {
        DOC.says(STATE, "Returns the state of a thread.", "- `thread`: 0 to 3",
                "Returns HALTED, READY, LOADING or AT_BARRIER;");
        for (int first = 0; first < 4; first++) {
            BarrelProcessor x = Check.with("j0;l00;b;h");
            for (int thread = 0; thread < 4; thread++) {
                x.start(thread, (first + thread) % 4);
            }
            x.run(4);
            int[] states = {READY, LOADING, AT_BARRIER, HALTED};
            for (int thread = 0; thread < 4; thread++) {
                CHECK.due("state", x.state(thread), states[(first + thread) % 4]);
            }
        }
    }

    private static void stateRefusesOthers() {
        DOC.says(STATE, "NO_SUCH if there is no such thread.");
        Busy.refusesOutside(CHECK, "state", 0, 3, (x, thread) -> x.state(thread), NO_SUCH);
    }

    private static void counterFromZeroToFortyEight() {
        DOC.says(PROGRAM_COUNTER, "Returns the program counter of a thread.",
                "- `thread`: 0 to 3",
                "Returns the program counter, 0 to 48 (0 for a thread that was never started);");
        for (int thread = 0; thread < 4; thread++) {
            BarrelProcessor x = new BarrelProcessor();
            x.set(LEND, 1);
            CHECK.due("programCounter of one never started", x.programCounter(thread), 0);
            x.halt(thread);
            CHECK.due("programCounter of one only halted", x.programCounter(thread), 0);
            x.start(thread, 47);
            CHECK.due("programCounter", x.programCounter(thread), 47);
            x.run(1);
            CHECK.due("programCounter behind the last place", x.programCounter(thread), 48);
            CHECK.due("programCounter of another", x.programCounter(3 - thread), 0);
            x.start(thread, 0);
            CHECK.due("programCounter", x.programCounter(thread), 0);
            x.run(1);
            CHECK.due("programCounter after a HALT at 0", x.programCounter(thread), 1);
            x.undo();
            x.undo();
            x.undo();
            x.undo();
            CHECK.due("programCounter after undo", x.programCounter(thread), 0);
        }
    }

    private static void counterRefusesOthers() {
        DOC.says(PROGRAM_COUNTER, "NO_SUCH if there is no such thread.");
        Busy.refusesOutside(CHECK, "programCounter", 0, 3, (x, thread) -> x.programCounter(thread),
                NO_SUCH);
    }

    private static void registerOfEachThread() {
        DOC.says(REGISTER, "Returns a register of a thread.", "- `thread`: 0 to 3",
                "- `register`: 0 to 3", "Returns the value;");
        BarrelProcessor x = new BarrelProcessor();
        for (int i = 0; i < 16; i++) {
            CHECK.due("register at first", x.register(i / 4, i % 4), 0);
            x.setRegister(i / 4, i % 4, i % 2 == 0 ? 32767 - i : -32768 + i);
        }
        for (int i = 0; i < 16; i++) {
            CHECK.due("register(" + i / 4 + ", " + i % 4 + ")", x.register(i / 4, i % 4),
                    i % 2 == 0 ? 32767 - i : -32768 + i);
        }
    }

    private static void registerRefusesOthers() {
        DOC.says(REGISTER, "NO_SUCH if there is no such thread or register.");
        for (int edge = 0; edge < 4; edge += 3) {
            int one = edge;
            Busy.refusesOutside(CHECK, "register " + edge, 0, 3,
                    (x, thread) -> x.register(thread, one), NO_SUCH);
            Busy.refusesOutside(CHECK, "register of " + edge, 0, 3,
                    (x, register) -> x.register(one, register), NO_SUCH);
        }
    }

    private static void wordOfEachNumber() {
        DOC.says(WORD, "Returns a word of the data memory.", "- `word`: 0 to 31",
                "Returns the value;");
        BarrelProcessor x = new BarrelProcessor();
        for (int word = 0; word < 32; word++) {
            CHECK.due("word at first", x.word(word), 0);
            x.setWord(word, word % 2 == 0 ? 32767 - word : -32768 + word);
        }
        for (int word = 0; word < 32; word++) {
            CHECK.due("word " + word, x.word(word), word % 2 == 0 ? 32767 - word : -32768 + word);
        }
    }

    private static void wordRefusesOthers() {
        DOC.says(WORD, "NO_SUCH if there is no such word.");
        Busy.refusesOutside(CHECK, "word", 0, 31, (x, word) -> x.word(word), NO_SUCH);
    }

    private static void slotOfEachNumber() {
        DOC.says(SLOT, "Returns the thread of a slot.", "- `slot`: 0 to 7", "Returns the thread;");
        BarrelProcessor x = new BarrelProcessor();
        for (int slot = 0; slot < 8; slot++) {
            CHECK.due("slot at first", x.slot(slot), slot % 4);
            x.setSlot(slot, 3 - slot / 2);
        }
        for (int slot = 0; slot < 8; slot++) {
            CHECK.due("slot " + slot, x.slot(slot), 3 - slot / 2);
        }
    }

    private static void slotRefusesOthers() {
        DOC.says(SLOT, "NO_SUCH if there is no such slot.");
        Busy.refusesOutside(CHECK, "slot", 0, 7, (x, slot) -> x.slot(slot), NO_SUCH);
    }

    private static void settingOfBoth() {
        DOC.says(SETTING, "Returns the value of a setting.", "- `setting`: LATENCY or LEND",
                "Returns the value;");
        BarrelProcessor x = new BarrelProcessor();
        CHECK.due("setting(0)", x.setting(0), 3);
        CHECK.due("setting(1)", x.setting(1), 0);
        x.set(LATENCY, 20);
        CHECK.due("setting(0)", x.setting(0), 20);
        CHECK.due("setting(1)", x.setting(1), 0);
        x.set(LEND, 2);
        x.set(LATENCY, 0);
        CHECK.due("setting(0)", x.setting(0), 0);
        CHECK.due("setting(1)", x.setting(1), 2);
    }

    private static void settingRefusesOthers() {
        DOC.says(SETTING, "NO_SUCH if there is no such setting.");
        Busy.refusesOutside(CHECK, "setting", 0, 1, (x, setting) -> x.setting(setting), NO_SUCH);
    }

    private static void breakpointOfEachPlace() {
        DOC.says(BREAKPOINT, "Tells whether a place has a breakpoint.", "- `place`: 0 to 47",
                "Returns 1 if it has a breakpoint, otherwise 0;");
        for (int place = 0; place < 48; place++) {
            BarrelProcessor x = new BarrelProcessor();
            x.setBreakpoint(place, true);
            for (int other = 0; other < 48; other++) {
                CHECK.due("breakpoint", x.breakpoint(other), other == place ? 1 : 0);
            }
            x.setBreakpoint(place, false);
            CHECK.due("breakpoint that was removed", x.breakpoint(place), 0);
        }
    }

    private static void breakpointRefusesOthers() {
        DOC.says(BREAKPOINT, "NO_SUCH if there is no such place.");
        Busy.refusesOutside(CHECK, "breakpoint", 0, 47, (x, place) -> x.breakpoint(place),
                NO_SUCH);
    }

    private static void cycleCountsThoseThatWereRun() {
        DOC.says(CYCLE, "Returns the number of the next cycle.",
                "Returns the number of cycles that were run so far.");
        BarrelProcessor x = Check.with("a00;j0");
        CHECK.due("cycle at first", x.cycle(), 0);
        x.run(200);
        CHECK.due("cycle after a run of nobody", x.cycle(), 0);
        x.start(1, 0);
        x.run(1);
        CHECK.due("cycle after an idle one", x.cycle(), 1);
        x.setBreakpoint(1, true);
        CHECK.due("run to the breakpoint", x.run(200), 4);
        CHECK.due("cycle at the breakpoint", x.cycle(), 5);
        x.run(0);
        CHECK.due("cycle after a refused run", x.cycle(), 5);
        x.start(1, 1);
        CHECK.due("cycle after a start", x.cycle(), 5);
        x.setBreakpoint(1, false);
        x.run(200);
        x.run(200);
        CHECK.due("cycle after 405", x.cycle(), 405);
        x.undo();
        CHECK.due("cycle after undo", x.cycle(), 205);
    }

    private static void idleCountsThoseWithoutIssuing() {
        DOC.says(IDLE, "Returns the number of idle cycles.",
                "Returns how many cycles without an issuing thread were run so far.");
        BarrelProcessor x = Check.with("j0;l00;b");
        CHECK.due("idle at first", x.idle(), 0);
        x.run(200);
        CHECK.due("idle after a run of nobody", x.idle(), 0);
        x.start(0, 0);
        x.run(1);
        CHECK.due("idle after none", x.idle(), 0);
        x.run(3);
        CHECK.due("idle after three", x.idle(), 3);
        x.run(196);
        CHECK.due("idle in 200 cycles", x.idle(), 150);
        x.set(LEND, 1);
        x.run(200);
        CHECK.due("idle without one more", x.idle(), 150);
        x.set(LATENCY, 20);
        x.start(0, 1);
        x.run(21);
        CHECK.due("idle in a load", x.idle(), 170);
        x.run(1);
        CHECK.due("idle behind it", x.idle(), 170);
        x.undo();
        CHECK.due("idle after undo", x.idle(), 170);
        x.undo();
        CHECK.due("idle after one more undo", x.idle(), 150);
    }

    private static void executedCountsEachIssue() {
        DOC.says(EXECUTED, "Returns the number of instructions that a thread has executed.",
                "- `thread`: 0 to 3",
                "Returns the number of cycles in which it was the issuing thread;");
        for (int thread = 0; thread < 4; thread++) {
            BarrelProcessor x = new BarrelProcessor();
            Check.type(x, "a00;a00");
            x.assemble(46);
            CHECK.due("executed at first", x.executed(thread), 0);
            x.start(thread, 46);
            x.run(200);
            CHECK.due("executed with the HALT behind 47", x.executed(thread), 3);
            x.start(thread, 9);
            CHECK.due("executed after a start", x.executed(thread), 3);
            x.run(200);
            CHECK.due("executed with a HALT at a place", x.executed(thread), 4);
            CHECK.due("executed of another", x.executed(3 - thread), 0);
            x.halt(thread);
            CHECK.due("executed after a halt", x.executed(thread), 4);
            x.undo();
            x.undo();
            CHECK.due("executed after undo", x.executed(thread), 3);
        }
    }

    private static void executedRefusesOthers() {
        DOC.says(EXECUTED, "NO_SUCH if there is no such thread.");
        Busy.refusesOutside(CHECK, "executed", 0, 3, (x, thread) -> x.executed(thread), NO_SUCH);
    }

    private static void lentCountsSlotsOfOthers() {
        DOC.says(LENT, "Returns the number of slots that were lent to a thread.",
                "- `thread`: 0 to 3", "Returns the number of cycles in which it was the issuing "
                + "thread although the slot had another thread;");
        for (int thread = 0; thread < 4; thread++) {
            for (int lend = 0; lend <= 2; lend++) {
                BarrelProcessor x = Check.with("j0");
                CHECK.due("lent at first", x.lent(thread), 0);
                x.set(LEND, lend);
                x.start(thread, 0);
                x.run(8);
                CHECK.due("lent with LEND " + lend, x.lent(thread), lend == 0 ? 0 : 6);
                giveAllSlotsTo(x, thread);
                x.run(8);
                CHECK.due("lent with all slots its own", x.lent(thread), lend == 0 ? 0 : 6);
                x.setSlot(3, 3 - thread);
                x.run(8);
                CHECK.due("lent with one of another", x.lent(thread), lend == 0 ? 0 : 7);
                CHECK.due("lent to another", x.lent(3 - thread), 0);
                x.start(thread, 0);
                CHECK.due("lent after a start", x.lent(thread), lend == 0 ? 0 : 7);
            }
        }
    }

    private static void lentRefusesOthers() {
        DOC.says(LENT, "NO_SUCH if there is no such thread.");
        Busy.refusesOutside(CHECK, "lent", 0, 3, (x, thread) -> x.lent(thread), NO_SUCH);
    }

    private static final String SEQUENCE = "Returns the greatest number of consecutive cycles in "
            + "which it was starved so far (cycles in which it was not ready end such a sequence, "
            + "and so does starting or halting it);";

    /** Thread 0 is ready and has no slot. */
    private static BarrelProcessor starving(String program) {
        BarrelProcessor x = Check.with(program);
        giveAllSlotsTo(x, 1);
        x.start(0, 0);
        return x;
    }

    private static void starvedIsTheGreatestSequence() {
        DOC.says(STARVED, "Returns for how long a thread was starved.", "- `thread`: 0 to 3",
                SEQUENCE);
        BarrelProcessor x = starving("j0");
        CHECK.due("starved at first", x.starved(0), 0);
        for (int cycles = 1; cycles <= 20; cycles++) {
            x.run(1);
            CHECK.due("starved while the sequence goes on", x.starved(0), cycles);
        }
        x.run(200);
        CHECK.due("starved in 220 cycles", x.starved(0), 220);
        x.undo();
        CHECK.due("starved after undo", x.starved(0), 20);
        CHECK.due("starved of one that is halted", x.starved(1), 0);
    }

    private static void starvedEndsWithAnIssue() {
        DOC.says(STARVED, SEQUENCE);
        BarrelProcessor x = starving("j0");
        x.setSlot(3, 0);
        x.run(4);
        CHECK.due("starved in the cycles 0 to 2", x.starved(0), 3);
        x.run(3);
        CHECK.due("starved in the cycles 4 to 6", x.starved(0), 3);
        x.run(1);
        CHECK.due("starved in the cycles 4 to 7", x.starved(0), 4);
        x.run(3);
        CHECK.due("starved in the cycles 4 to 10", x.starved(0), 7);
        x.run(200);
        CHECK.due("starved seven cycles again and again", x.starved(0), 7);
        CHECK.due("executed", x.executed(0), 26);
    }

    private static void starvedEndsWhenNotReady() {
        DOC.says(STARVED, SEQUENCE);
        // Thread 0 issues in the cycles 0 and 6, and loads until the cycles 3 and 9.
        BarrelProcessor x = starving("l00;l00");
        x.set(LATENCY, 2);
        x.setSlot(0, 0);
        x.setSlot(6, 0);
        x.run(6);
        CHECK.due("starved in the cycles 3 to 5", x.starved(0), 3);
        x.run(5);
        CHECK.due("starved in the cycles 9 and 10", x.starved(0), 3);
        x.run(2);
        CHECK.due("starved in the cycles 9 to 12", x.starved(0), 4);
        // Thread 0 comes to the barrier in the cycle 4 and issues again in the cycle 60.
        x = starving("b;j1");
        x.setSlot(4, 0);
        x.start(1, 1);
        x.run(60);
        CHECK.due("starved in the cycles 0 to 3", x.starved(0), 4);
        x.halt(1);
        x.run(5);
        CHECK.due("starved in the cycles 61 to 64", x.starved(0), 4);
        x.run(1);
        CHECK.due("starved in the cycles 61 to 65", x.starved(0), 5);
    }

    private static void starvedEndsWithAStart() {
        DOC.says(STARVED, SEQUENCE);
        BarrelProcessor x = starving("j0");
        x.run(5);
        x.start(0, 0);
        CHECK.due("starved after a start", x.starved(0), 5);
        x.run(5);
        CHECK.due("starved five cycles again", x.starved(0), 5);
        x.run(1);
        CHECK.due("starved six cycles", x.starved(0), 6);
        x.start(1, 0);
        x.run(1);
        CHECK.due("a start of another ends nothing", x.starved(0), 7);
        x.setRegister(0, 0, 1);
        x.run(1);
        CHECK.due("no other action ends it", x.starved(0), 8);
    }

    private static void starvedEndsWithAHalt() {
        DOC.says(STARVED, SEQUENCE);
        BarrelProcessor x = starving("j0");
        x.run(5);
        x.halt(0);
        CHECK.due("starved after a halt", x.starved(0), 5);
        x.undo();
        x.run(1);
        CHECK.due("starved six cycles, with the halt undone", x.starved(0), 6);
        x.halt(0);
        x.start(0, 0);
        x.run(6);
        CHECK.due("starved six cycles again", x.starved(0), 6);
        x.run(1);
        CHECK.due("starved seven cycles", x.starved(0), 7);
        x.halt(1);
        x.run(1);
        CHECK.due("a halt of another ends nothing", x.starved(0), 8);
    }

    private static void starvedRefusesOthers() {
        DOC.says(STARVED, "NO_SUCH if there is no such thread.");
        Busy.refusesOutside(CHECK, "starved", 0, 3, (x, thread) -> x.starved(thread), NO_SUCH);
    }

    private static void traceTakesItsParts() {
        DOC.says(TRACE, "Returns something about an executed instruction of the trace.",
                "- `ago`: 0 for the latest one, 1 for the one before, and so on",
                "- `part`: 0 for the cycle, 1 for the thread, 2 for the place",
                "Returns the number;");
        BarrelProcessor x = Check.with("j9");
        x.start(1, 0);
        x.start(3, 47);
        x.run(6);
        int[][] rows = {{5, 1, 9}, {3, 3, 47}, {1, 1, 0}};
        for (int ago = 0; ago < 3; ago++) {
            for (int part = 0; part < 3; part++) {
                CHECK.due("trace(" + ago + ", " + part + ")", x.trace(ago, part), rows[ago][part]);
            }
        }
        x.undo();
        CHECK.due("trace after undo", x.trace(0, 0), NONE);
    }

    private static void traceRefusesOthers() {
        DOC.says(TRACE, "BAD_VALUE if ago is below 0 or part is out of range;");
        int[] below = {-1, -2, -65536, Integer.MIN_VALUE};
        for (int ago : below) {
            for (int part = -1; part <= 3; part++) {
                int one = part;
                Busy.leaves(CHECK, "trace(" + ago + ", " + part + ")", x -> x.trace(ago, one),
                        BAD_VALUE);
            }
        }
        int[] agos = {0, 2, 3, 15, 16, Integer.MAX_VALUE};
        for (int ago : agos) {
            Busy.refusesOutside(CHECK, "trace of " + ago, 0, 2, (x, part) -> x.trace(ago, part),
                    BAD_VALUE);
        }
    }

    private static void traceHasNotSoMany() {
        DOC.says(TRACE, "NONE if the trace does not have so many.");
        for (int executed = 0; executed <= 18; executed++) {
            BarrelProcessor x = Check.with("j0");
            giveAllSlotsTo(x, 0);
            x.start(0, 0);
            if (executed > 0) {
                x.run(executed);
            }
            int kept = Math.min(16, executed);
            for (int part = 0; part < 3; part++) {
                if (kept > 0) {
                    int want = part == 0 ? executed - kept : 0;
                    CHECK.due("trace of the oldest", x.trace(kept - 1, part), want);
                }
                CHECK.due("trace before the oldest", x.trace(kept, part), NONE);
                CHECK.due("trace(100, part)", x.trace(100, part), NONE);
                CHECK.due("trace of the greatest int", x.trace(Integer.MAX_VALUE, part), NONE);
            }
        }
    }

    private static void useOfNoCycle() {
        DOC.says(USE, "0.0f if no cycle was run.");
        BarrelProcessor x = Check.with("j0");
        CHECK.dueFloat("use at first", x.use(), 0.0f);
        x.run(200);
        CHECK.dueFloat("use after a run of nobody", x.use(), 0.0f);
        x.start(0, 0);
        x.run(200);
        x.undo();
        CHECK.dueFloat("use after undo", x.use(), 0.0f);
    }

    private static void useFromNoneToAll() {
        DOC.says(USE, "Returns how much of the cycles was used.", "Returns the number of cycles "
                + "that were not idle, as a float, divided by the number of cycles that were run, "
                + "as a float;");
        BarrelProcessor x = Check.with("j0");
        x.start(2, 0);
        x.run(2);
        CHECK.dueFloat("use of idle cycles alone", x.use(), 0.0f);
        x.run(1);
        CHECK.dueFloat("use of one in three", x.use(), 0.33333334f);
        x.run(4);
        CHECK.dueFloat("use of two in seven", x.use(), 0.2857143f);
        x = Check.with("j0");
        giveAllSlotsTo(x, 3);
        x.start(3, 0);
        x.run(1);
        CHECK.dueFloat("use of all of one", x.use(), 1.0f);
        x.run(200);
        CHECK.dueFloat("use of all of 201", x.use(), 1.0f);
        x.halt(3);
        x.start(0, 0);
        x.run(1);
        CHECK.dueFloat("use of 201 in 202", x.use(), 201.0f / 202.0f);
        for (int runs = 0; runs < 400; runs++) {
            x.run(200);
        }
        CHECK.dueFloat("use of 201 in 80202", x.use(), 0.0025061719f);
    }

    private static void questionsChangeNothing() {
        Busy.leaves(CHECK, "state(2)", x -> x.state(2), AT_BARRIER);
        Busy.leaves(CHECK, "programCounter(0)", x -> x.programCounter(0), 0);
        Busy.leaves(CHECK, "register(0, 0)", x -> x.register(0, 0), 0);
        Busy.leaves(CHECK, "word(0)", x -> x.word(0), -9);
        Busy.leaves(CHECK, "slot(6)", x -> x.slot(6), 1);
        Busy.leaves(CHECK, "setting(0)", x -> x.setting(LATENCY), 7);
        Busy.leaves(CHECK, "breakpoint(5)", x -> x.breakpoint(5), 1);
        Busy.leaves(CHECK, "cycle", x -> x.cycle(), 4);
        Busy.leaves(CHECK, "idle", x -> x.idle(), 0);
        Busy.leaves(CHECK, "executed(3)", x -> x.executed(3), 1);
        Busy.leaves(CHECK, "lent(3)", x -> x.lent(3), 0);
        Busy.leaves(CHECK, "starved(3)", x -> x.starved(3), 3);
        Busy.leaves(CHECK, "trace(0, 2)", x -> x.trace(0, 2), 5);
        Busy.leaves(CHECK, "trace(4, 2)", x -> x.trace(4, 2), NONE);
        Busy.leaves(CHECK, "use", x -> (long) x.use(), 1);
        Busy.leaves(CHECK, "fault", x -> x.fault(), 8);
        CHECK.due("state of a halted one", Busy.make().state(3), HALTED);
    }
}
