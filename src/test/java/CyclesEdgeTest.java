/** Each sentence of "Cycles", "Breakpoints", "Trace" and promise 10 (run), at its edges. */
public final class CyclesEdgeTest {
    private static final String CYCLES = "Cycles";
    private static final String BREAKPOINTS = "Breakpoints";
    private static final String TRACE = "Trace";
    private static final String RUN = "Promise 10: run";
    private static final int NONE = BarrelProcessor.NONE;
    private static final int BAD_VALUE = BarrelProcessor.BAD_VALUE;
    private static final int HALTED = BarrelProcessor.HALTED;
    private static final int READY = BarrelProcessor.READY;
    private static final int LOADING = BarrelProcessor.LOADING;
    private static final int AT_BARRIER = BarrelProcessor.AT_BARRIER;
    private static final int LATENCY = BarrelProcessor.LATENCY;
    private static final int LEND = BarrelProcessor.LEND;
    private static final Check CHECK = new Check("CyclesEdgeTest");
    private static final Document DOC = new Document(CHECK, CYCLES, BREAKPOINTS, TRACE, RUN);

    public static void main(String[] args) {
        cyclesBeginWithZero();
        slotsAtFirst();
        slotsBeginAnewAfterEightCycles();
        settingsAtFirst();
        loadEndsWithEachLatency();
        loadKeepsTheLatencyOfItsCycle();
        loadGetsTheWordAsItIsAtTheEnd();
        finishedLoadMakesReady();
        barrierOpensForOne();
        barrierOpensForFour();
        barrierOpensInTheNextCycle();
        barrierWaitsForAReadyThread();
        barrierWaitsForALoadingThread();
        barrierWaitsForAThreadThatHasJustLoaded();
        barrierDoesNotWaitForHaltedThreads();
        slotGoesToItsReadyThread();
        lendZeroLendsToNobody();
        lendOneGoesAroundFromTheSlot();
        lendTwoTakesTheLongestWaiting();
        lendTwoTakesTheLowestOfSeveral();
        lendTwoTakesTheOneThatNeverIssued();
        waitingBeginsWithTheLastIssue();
        nobodyReadyNobodyIssues();
        issuingOrIdle();
        starvedIsReadyWithoutIssuing();
        firstAndLastPlaceHaveBreakpoints();
        breakpointInTheFirstCycle();
        breakpointInTheSecondCycle();
        breakpointOfAThreadThatIsLent();
        breakpointOfAThreadThatDoesNotIssue();
        breakpointBehindALoad();
        breakpointBehindABarrier();
        noBreakpointBehindTheLastPlace();
        breakpointsMatterOnlyForRun();
        traceHoldsSixteen();
        traceOfFewer();
        traceOfTheHaltBehindTheLastPlace();
        runTakesOneToTwoHundred();
        runRefusesOtherNumbers();
        runOfHaltedThreads();
        runEndsWhenTheLastThreadHalts();
        DOC.finish();
        CHECK.finish();
    }

    /** Runs a cycle for each of these; NONE for an idle one. */
    private static void issuers(String what, BarrelProcessor x, int... want) {
        for (int thread : want) {
            int idle = x.idle();
            CHECK.due(what + ": run(1)", x.run(1), 1);
            CHECK.due(what + ": issuing in the cycle " + (x.cycle() - 1),
                    x.idle() > idle ? NONE : x.trace(0, 1), thread);
        }
    }

    private static void giveAllSlotsTo(BarrelProcessor x, int thread) {
        for (int slot = 0; slot < 8; slot++) {
            x.setSlot(slot, thread);
        }
    }

    private static void cyclesBeginWithZero() {
        DOC.says(CYCLES, "The cycles are numbered from 0.");
        BarrelProcessor x = Check.with("j0");
        CHECK.due("cycle", x.cycle(), 0);
        x.start(0, 0);
        x.run(1);
        CHECK.due("the first cycle", x.trace(0, 0), 0);
        CHECK.due("cycle", x.cycle(), 1);
    }

    private static void slotsAtFirst() {
        DOC.says(CYCLES, "There is a table of 8 slots, each with a thread (the slot k has the "
                + "thread k modulo 4 at first);");
        BarrelProcessor x = new BarrelProcessor();
        int[] threads = {0, 1, 2, 3, 0, 1, 2, 3};
        for (int slot = 0; slot < 8; slot++) {
            CHECK.due("slot " + slot, x.slot(slot), threads[slot]);
        }
        CHECK.due("slot(8)", x.slot(8), BarrelProcessor.NO_SUCH);
    }

    private static void slotsBeginAnewAfterEightCycles() {
        DOC.says(CYCLES, "the slot of a cycle is the number of the cycle modulo 8.");
        int[] threads = {0, 0, 1, 2, 3, 3, 2, 1};
        BarrelProcessor x = Check.with("j0");
        for (int slot = 0; slot < 8; slot++) {
            x.setSlot(slot, threads[slot]);
        }
        for (int thread = 0; thread < 4; thread++) {
            x.start(thread, 0);
        }
        issuers("two rounds", x, 0, 0, 1, 2, 3, 3, 2, 1, 0, 0, 1, 2, 3, 3, 2, 1);
        x.run(187);
        CHECK.due("cycle", x.cycle(), 203);
        issuers("from the cycle 203 on", x, 2, 3, 3, 2, 1, 0);
    }

    private static void settingsAtFirst() {
        DOC.says(CYCLES, "The settings are LATENCY (0 to 20; 3 at first) and LEND (0 to 2; 0 at "
                + "first).");
        BarrelProcessor x = new BarrelProcessor();
        CHECK.due("setting(LATENCY)", x.setting(LATENCY), 3);
        CHECK.due("setting(LEND)", x.setting(LEND), 0);
        CHECK.due("set(LATENCY, 20)", x.set(LATENCY, 20), 3);
        CHECK.due("set(LATENCY, 21)", x.set(LATENCY, 21), BAD_VALUE);
        CHECK.due("set(LATENCY, 0)", x.set(LATENCY, 0), 20);
        CHECK.due("set(LATENCY, -1)", x.set(LATENCY, -1), BAD_VALUE);
        CHECK.due("set(LEND, 2)", x.set(LEND, 2), 0);
        CHECK.due("set(LEND, 3)", x.set(LEND, 3), BAD_VALUE);
        CHECK.due("set(LEND, 0)", x.set(LEND, 0), 2);
        CHECK.due("set(LEND, -1)", x.set(LEND, -1), BAD_VALUE);
    }

    /** Thread 1 has all slots; it loads the word 9 into the register 0, and then halts. */
    private static BarrelProcessor loader(int latency) {
        BarrelProcessor x = Check.with("l01;h");
        giveAllSlotsTo(x, 1);
        x.set(LATENCY, latency);
        x.setWord(9, 90);
        x.start(1, 0);
        x.setRegister(1, 1, 9);
        return x;
    }

    private static void loadEndsWithEachLatency() {
        DOC.says(CYCLES, "In each cycle, the following is done:",
                "1. Each loading thread that executed its LOAD in a cycle c such that the number "
                + "of this cycle is at least c + 1 + LATENCY (with LATENCY as it was when the "
                + "LOAD was executed) finishes its load: the register gets the value that the word "
                + "has now;");
        for (int latency = 0; latency <= 20; latency++) {
            for (int first = 0; first <= 9; first += 3) {
                BarrelProcessor x = loader(latency);
                giveAllSlotsTo(x, 0);
                if (first > 0) {
                    x.run(first);
                }
                giveAllSlotsTo(x, 1);
                CHECK.due("the LOAD", x.run(1), 1);
                CHECK.due("the cycle of the LOAD", x.trace(0, 0), first);
                if (latency > 0) {
                    CHECK.due("cycles of a latency " + latency, x.run(latency), latency);
                }
                CHECK.due("state in the cycle before its end", x.state(1), LOADING);
                CHECK.due("register before its end", x.register(1, 0), 0);
                CHECK.due("run(200) from its end on", x.run(200), 1);
                CHECK.due("register at its end", x.register(1, 0), 90);
                CHECK.due("state at its end", x.state(1), HALTED);
            }
        }
    }

    private static void loadKeepsTheLatencyOfItsCycle() {
        DOC.says(CYCLES, "(with LATENCY as it was when the LOAD was executed)");
        int[] latencies = {0, 1, 5, 19, 20};
        for (int latency : latencies) {
            for (int later : latencies) {
                BarrelProcessor x = loader(latency);
                x.run(1);
                x.set(LATENCY, later);
                CHECK.due("run(200) with " + later + " after a LOAD with " + latency, x.run(200),
                        latency + 1);
                CHECK.due("register", x.register(1, 0), 90);
            }
        }
    }

    private static void loadGetsTheWordAsItIsAtTheEnd() {
        DOC.says(CYCLES, "finishes its load: the register gets the value that the word has now;");
        BarrelProcessor x = loader(20);
        x.run(21);
        x.setWord(9, -32768);
        x.run(1);
        CHECK.due("a word that was set just before the end", x.register(1, 0), -32768);
        // Thread 0 loads the word 0 in the cycle 0; thread 1 stores in the cycle 1, in step 4.
        for (int latency = 0; latency <= 1; latency++) {
            x = Check.with("l01;h;w01;h");
            x.setWord(0, 50);
            x.set(LATENCY, latency);
            x.start(0, 0);
            x.start(1, 2);
            x.setRegister(1, 0, 60);
            x.run(200);
            CHECK.due("the word was stored in the cycle " + (latency == 0 ? "of" : "before")
                    + " the end", x.register(0, 0), latency == 0 ? 50 : 60);
        }
    }

    private static void finishedLoadMakesReady() {
        DOC.says(CYCLES, "the thread is ready.");
        BarrelProcessor x = loader(2);
        x.run(1);
        giveAllSlotsTo(x, 0);
        x.run(2);
        CHECK.due("state before the cycle 3", x.state(1), LOADING);
        x.run(1);
        CHECK.due("state after the cycle 3", x.state(1), READY);
        CHECK.due("register after the cycle 3", x.register(1, 0), 90);
        CHECK.due("starved in the cycle 3", x.starved(1), 1);
    }

    private static final String BARRIER = "2. If at least one thread is at the barrier and no "
            + "thread is ready or loading, all threads that are at the barrier become ready.";

    private static void barrierOpensForOne() {
        DOC.says(CYCLES, BARRIER);
        for (int thread = 0; thread < 4; thread++) {
            BarrelProcessor x = Check.with("b;h");
            x.start(thread, 0);
            x.run(thread + 1);
            CHECK.due("state at the barrier", x.state(thread), AT_BARRIER);
            x.run(1);
            CHECK.due("state behind it", x.state(thread), READY);
            CHECK.due("starved", x.starved(thread), Math.max(1, thread));
        }
    }

    private static void barrierOpensForFour() {
        DOC.says(CYCLES, BARRIER);
        BarrelProcessor x = Check.with("b;h");
        for (int thread = 0; thread < 4; thread++) {
            x.start(thread, 0);
        }
        x.run(4);
        for (int thread = 0; thread < 4; thread++) {
            CHECK.due("state at the barrier", x.state(thread), AT_BARRIER);
        }
        x.run(1);
        CHECK.due("state of 0, which halts at once", x.state(0), HALTED);
        for (int thread = 1; thread < 4; thread++) {
            CHECK.due("state behind the barrier", x.state(thread), READY);
        }
        CHECK.due("idle", x.idle(), 0);
        CHECK.due("run(200)", x.run(200), 3);
    }

    private static void barrierOpensInTheNextCycle() {
        DOC.says(CYCLES, BARRIER);
        BarrelProcessor x = Check.with("b;b;h");
        x.set(LEND, 1);
        x.start(2, 0);
        issuers("two barriers and a halt", x, 2, 2, 2);
        CHECK.due("state", x.state(2), HALTED);
        CHECK.due("cycle", x.cycle(), 3);
    }

    private static void barrierWaitsForAReadyThread() {
        DOC.says(CYCLES, BARRIER);
        BarrelProcessor x = Check.with("b;h;j2");
        x.start(0, 0);
        x.start(1, 0);
        x.start(3, 2);
        x.run(190);
        CHECK.due("state(0)", x.state(0), AT_BARRIER);
        CHECK.due("state(1)", x.state(1), AT_BARRIER);
        x.start(3, 0);
        x.run(2);
        CHECK.due("state(3)", x.state(3), AT_BARRIER);
        CHECK.due("state(0) when the last one has come", x.state(0), AT_BARRIER);
        x.run(1);
        CHECK.due("state(0) in the next cycle", x.state(0), HALTED);
        CHECK.due("state(1) in the next cycle", x.state(1), READY);
        CHECK.due("state(3) in the next cycle", x.state(3), READY);
    }

    private static void barrierWaitsForALoadingThread() {
        DOC.says(CYCLES, BARRIER);
        BarrelProcessor x = Check.with("b;h;l00;h");
        x.set(LATENCY, 20);
        x.start(0, 0);
        x.start(1, 2);
        x.run(22);
        CHECK.due("state(1) before the end of the load", x.state(1), LOADING);
        CHECK.due("state(0)", x.state(0), AT_BARRIER);
        x.run(3);
        CHECK.due("state(1) before its slot", x.state(1), READY);
        CHECK.due("state(0)", x.state(0), AT_BARRIER);
        x.run(1);
        CHECK.due("state(1)", x.state(1), HALTED);
        CHECK.due("state(0)", x.state(0), AT_BARRIER);
        x.run(1);
        CHECK.due("state(0)", x.state(0), READY);
    }

    private static void barrierWaitsForAThreadThatHasJustLoaded() {
        DOC.says(CYCLES, BARRIER);
        BarrelProcessor x = Check.with("b;h;l00;h");
        x.start(0, 0);
        x.start(1, 2);
        x.run(5);
        CHECK.due("nextThread at the end of the load", x.nextThread(), 1);
        x.run(1);
        CHECK.due("state(1) after its halt", x.state(1), HALTED);
        CHECK.due("state(0): closed in that cycle", x.state(0), AT_BARRIER);
        x.run(1);
        CHECK.due("state(0): open in the next one", x.state(0), READY);
    }

    private static void barrierDoesNotWaitForHaltedThreads() {
        DOC.says(CYCLES, BARRIER);
        BarrelProcessor x = Check.with("b;h;j2;l00");
        x.set(LATENCY, 20);
        x.start(0, 0);
        x.start(1, 2);
        x.start(2, 3);
        x.run(3);
        x.halt(1);
        x.run(1);
        CHECK.due("state(0) while 2 loads", x.state(0), AT_BARRIER);
        CHECK.due("halt(2)", x.halt(2), LOADING);
        x.run(1);
        CHECK.due("state(0) without it", x.state(0), HALTED);
        CHECK.due("run(9)", x.run(9), 0);
    }

    private static void slotGoesToItsReadyThread() {
        DOC.says(CYCLES, "3. The issuing thread is determined.",
                "If the thread of the slot is ready, it is this thread.");
        for (int lend = 0; lend <= 2; lend++) {
            BarrelProcessor x = Check.with("j0");
            x.set(LEND, lend);
            for (int thread = 0; thread < 4; thread++) {
                x.start(thread, 0);
            }
            x.setSlot(1, 0);
            x.setSlot(7, 0);
            issuers("LEND " + lend, x, 0, 0, 2, 3, 0, 1, 2, 0, 0);
        }
    }

    private static void lendZeroLendsToNobody() {
        DOC.says(CYCLES, "Otherwise, if LEND is 0, there is no issuing thread;");
        BarrelProcessor x = Check.with("j0");
        x.start(0, 0);
        x.start(2, 0);
        x.start(3, 0);
        issuers("LEND 0 without 1", x, 0, NONE, 2, 3, 0, NONE, 2, 3);
        CHECK.due("lent(2)", x.lent(2), 0);
    }

    private static void lendOneGoesAroundFromTheSlot() {
        DOC.says(CYCLES, "if LEND is 1, it is the first ready thread of the threads t + 1, t + 2 "
                + "and t + 3, each modulo 4, where t is the thread of the slot;");
        String[] orders = {"123", "230", "301", "012"};
        for (int owner = 0; owner < 4; owner++) {
            for (int ready = 0; ready < 16; ready++) {
                if ((ready & (1 << owner)) == 0) {
                    BarrelProcessor x = Check.with("j0");
                    x.set(LEND, 1);
                    giveAllSlotsTo(x, owner);
                    startThose(x, ready);
                    CHECK.due("LEND 1 in the slot of " + owner + " with those of " + ready,
                            x.nextThread(), firstOf(orders[owner], ready));
                }
            }
        }
    }

    private static void startThose(BarrelProcessor x, int ready) {
        for (int thread = 0; thread < 4; thread++) {
            if ((ready & (1 << thread)) != 0) {
                x.start(thread, 0);
            }
        }
    }

    private static int firstOf(String order, int ready) {
        for (char digit : order.toCharArray()) {
            if ((ready & (1 << (digit - '0'))) != 0) {
                return digit - '0';
            }
        }
        return NONE;
    }

    private static void lendTwoTakesTheLongestWaiting() {
        DOC.says(CYCLES, "if LEND is 2, it is the ready thread that has waited the longest, of "
                + "several the one with the lowest number.");
        int[][] orders = {{0, 1, 2}, {0, 2, 1}, {1, 0, 2}, {1, 2, 0}, {2, 0, 1}, {2, 1, 0}};
        for (int owner = 0; owner < 4; owner++) {
            for (int[] order : orders) {
                int first = (owner + 1 + order[0]) % 4;
                int second = (owner + 1 + order[1]) % 4;
                int third = (owner + 1 + order[2]) % 4;
                BarrelProcessor x = Check.with("j0");
                x.set(LEND, 2);
                giveAllSlotsTo(x, owner);
                x.setSlot(0, first);
                x.setSlot(1, second);
                x.setSlot(2, third);
                startThose(x, 15 - (1 << owner));
                issuers("slots of their own, then those of " + owner, x, first, second, third,
                        first, second, third, first, second);
            }
        }
    }

    private static void lendTwoTakesTheLowestOfSeveral() {
        DOC.says(CYCLES, "of several the one with the lowest number.");
        for (int owner = 0; owner < 4; owner++) {
            for (int ready = 0; ready < 16; ready++) {
                if ((ready & (1 << owner)) == 0) {
                    BarrelProcessor x = Check.with("j0");
                    x.set(LEND, 2);
                    giveAllSlotsTo(x, owner);
                    startThose(x, ready);
                    CHECK.due("LEND 2 in the slot of " + owner + " with those of " + ready,
                            x.nextThread(), firstOf("0123", ready));
                }
            }
        }
    }

    private static void lendTwoTakesTheOneThatNeverIssued() {
        DOC.says(CYCLES, "a thread that was not the issuing thread since it was started has waited "
                + "longer than all threads that were.");
        BarrelProcessor x = Check.with("j0");
        x.set(LEND, 2);
        x.start(0, 0);
        x.start(3, 0);
        issuers("0 has issued in the very first cycle", x, 0, 3, 0, 3);
        x.start(3, 0);
        issuers("3 was started again", x, 0, 3);
        x.halt(0);
        x.start(0, 0);
        giveAllSlotsTo(x, 1);
        issuers("0 was halted and started again", x, 0, 3);
        x.start(0, 0);
        x.start(3, 0);
        issuers("both were started again", x, 0, 3);
    }

    private static void waitingBeginsWithTheLastIssue() {
        DOC.says(CYCLES, "A thread has waited since the last cycle in which it was the issuing "
                + "thread;");
        BarrelProcessor x = Check.with("l00;j1");
        x.set(LEND, 2);
        x.set(LATENCY, 5);
        giveAllSlotsTo(x, 1);
        x.start(3, 0);
        issuers("3 loads in the cycle 0", x, 3);
        x.start(0, 1);
        x.start(2, 1);
        issuers("3 is ready from the cycle 6 on", x, 0, 2, 0, 2, 0, 3, 2, 0, 3);
        x.halt(2);
        issuers("2 is halted", x, 0, 3);
        x.undo();
        x.undo();
        x.undo();
        issuers("the halt of 2 was undone", x, 2, 0, 3, 2);
    }

    private static void nobodyReadyNobodyIssues() {
        DOC.says(CYCLES, "If there is no ready thread, there is no issuing thread.");
        for (int lend = 0; lend <= 2; lend++) {
            BarrelProcessor x = Check.with("l00;h;b");
            x.set(LEND, lend);
            x.start(0, 0);
            x.start(1, 2);
            x.run(2);
            CHECK.due("nextThread", x.nextThread(), NONE);
            x.run(2);
            CHECK.due("idle", x.idle(), 2);
            CHECK.due("executed", x.executed(0) + x.executed(1), 2);
        }
    }

    private static void issuingOrIdle() {
        DOC.says(CYCLES, "4. If there is an issuing thread, it executes the instruction at its "
                + "program counter.", "Otherwise, the cycle is idle.");
        BarrelProcessor x = new BarrelProcessor();
        Check.type(x, "s0=4;h");
        x.assemble(46);
        x.start(1, 46);
        issuers("the slot of 0, and of 1", x, NONE, 1);
        CHECK.due("register", x.register(1, 0), 4);
        CHECK.due("idle", x.idle(), 1);
        issuers("the slots of 2, 3, 0 and 1", x, NONE, NONE, NONE, 1);
        CHECK.due("idle", x.idle(), 4);
        CHECK.due("state", x.state(1), HALTED);
    }

    private static void starvedIsReadyWithoutIssuing() {
        DOC.says(CYCLES, "A thread is starved in a cycle if it is ready in step 3 and is not the "
                + "issuing thread of this cycle.");
        BarrelProcessor x = Check.with("j0;b;l00;h");
        x.set(LATENCY, 20);
        giveAllSlotsTo(x, 0);
        x.start(0, 0);
        x.start(1, 0);
        x.setSlot(0, 2);
        x.setSlot(1, 3);
        x.start(2, 1);
        x.start(3, 2);
        x.run(6);
        CHECK.due("starved(0), which issues from the cycle 2 on", x.starved(0), 2);
        CHECK.due("starved(1), which never issues", x.starved(1), 6);
        CHECK.due("starved(2), at the barrier from the cycle 1 on", x.starved(2), 0);
        CHECK.due("starved(3), loading from the cycle 2 on", x.starved(3), 1);
        x.run(15);
        CHECK.due("starved(3) at the cycle 21", x.starved(3), 1);
        x.setSlot(5, 2);
        x.setSlot(6, 2);
        x.setSlot(7, 2);
        x.run(3);
        CHECK.due("starved(3), ready in step 3 of the cycle 22", x.starved(3), 2);
        CHECK.due("state(3)", x.state(3), READY);
    }

    private static void firstAndLastPlaceHaveBreakpoints() {
        DOC.says(BREAKPOINTS, "A place of the program memory can have a breakpoint.");
        for (int place = 0; place < 48; place++) {
            BarrelProcessor x = new BarrelProcessor();
            Check.type(x, place == 0 ? "j47" : "j0");
            x.assemble(place == 0 ? 47 : place);
            Check.type(x, "j" + place);
            x.assemble(0);
            x.set(LEND, 1);
            x.setBreakpoint(place, true);
            x.start(0, 0);
            int cycles = place == 0 ? 1 : x.run(9);
            CHECK.due("run(9) to the place " + place, cycles, 1);
            CHECK.due("programCounter", x.programCounter(0), place);
        }
    }

    private static final String BEFORE_EACH = "Breakpoints matter only for run: before each cycle "
            + "except the first one of the call, it is determined whether the issuing thread of "
            + "this cycle would execute an instruction at a place with a breakpoint;";
    private static final String ENDS = "if so, the call ends before this cycle.";

    private static void breakpointInTheFirstCycle() {
        DOC.says(BREAKPOINTS, BEFORE_EACH);
        DOC.says(RUN, "Runs cycles;", "it ends early at a breakpoint, or before a cycle at whose "
                + "beginning all threads are halted.");
        BarrelProcessor x = Check.with("a00;j0");
        x.set(LEND, 1);
        x.setBreakpoint(0, true);
        x.start(0, 0);
        CHECK.due("run(200) from a breakpoint", x.run(200), 2);
        CHECK.due("programCounter", x.programCounter(0), 0);
        CHECK.due("run(1) from a breakpoint", x.run(1), 1);
        CHECK.due("programCounter", x.programCounter(0), 1);
        CHECK.due("run(200) to the breakpoint", x.run(200), 1);
    }

    private static void breakpointInTheSecondCycle() {
        DOC.says(BREAKPOINTS, BEFORE_EACH, ENDS);
        BarrelProcessor x = Check.with("j0");
        x.set(LEND, 1);
        x.setBreakpoint(0, true);
        x.start(0, 0);
        for (int cycles = 1; cycles <= 200; cycles += 199) {
            CHECK.due("run(" + cycles + ")", x.run(cycles), 1);
        }
        CHECK.due("cycle", x.cycle(), 2);
        CHECK.due("executed", x.executed(0), 2);
        x.set(LEND, 0);
        CHECK.due("run(200) from an idle cycle", x.run(200), 2);
        CHECK.due("run(200) from the slot", x.run(200), 4);
        CHECK.due("run(4) from the slot", x.run(4), 4);
        CHECK.due("executed", x.executed(0), 4);
    }

    private static void breakpointOfAThreadThatIsLent() {
        DOC.says(BREAKPOINTS, BEFORE_EACH, ENDS);
        for (int lend = 0; lend <= 2; lend++) {
            BarrelProcessor x = Check.with("j0;j1");
            x.set(LEND, lend);
            x.setSlot(2, 1);
            x.setBreakpoint(1, true);
            x.start(0, 0);
            x.start(2, 1);
            // The cycle 1 is lent to 2 by both rules, and to nobody with LEND 0.
            CHECK.due("run(9) with LEND " + lend, x.run(9), lend == 0 ? 6 : 1);
            CHECK.due("executed(2)", x.executed(2), 0);
            CHECK.due("cycle", x.cycle(), lend == 0 ? 6 : 1);
        }
    }

    private static void breakpointOfAThreadThatDoesNotIssue() {
        DOC.says(BREAKPOINTS, BEFORE_EACH);
        BarrelProcessor x = Check.with("j0;j1;l00");
        giveAllSlotsTo(x, 3);
        x.setBreakpoint(1, true);
        x.setBreakpoint(2, true);
        x.start(1, 1);
        x.start(2, 1);
        x.start(3, 0);
        CHECK.due("run(200) with others at a breakpoint", x.run(200), 200);
        x.setSlot(5, 2);
        CHECK.due("run(200) to the slot of 2", x.run(200), 5);
        x.halt(2);
        CHECK.due("run(200) with 2 halted at a breakpoint", x.run(200), 200);
    }

    private static void breakpointBehindALoad() {
        DOC.says(BREAKPOINTS, BEFORE_EACH, ENDS);
        BarrelProcessor x = loader(5);
        x.setBreakpoint(1, true);
        CHECK.due("run(200) to the cycle in which the load ends", x.run(200), 6);
        CHECK.due("state before this cycle", x.state(1), LOADING);
        CHECK.due("register before this cycle", x.register(1, 0), 0);
        CHECK.due("nextThread", x.nextThread(), 1);
        x.setWord(9, 91);
        CHECK.due("run(200)", x.run(200), 1);
        CHECK.due("register: the word as it is in this cycle", x.register(1, 0), 91);
    }

    private static void breakpointBehindABarrier() {
        DOC.says(BREAKPOINTS, BEFORE_EACH, ENDS);
        BarrelProcessor x = Check.with("b;h");
        x.setBreakpoint(1, true);
        x.start(0, 0);
        x.start(1, 0);
        x.start(2, 0);
        x.start(3, 0);
        CHECK.due("run(200) to the cycle in which the barrier opens", x.run(200), 4);
        for (int thread = 0; thread < 4; thread++) {
            CHECK.due("state before this cycle", x.state(thread), AT_BARRIER);
        }
        CHECK.due("nextThread", x.nextThread(), 0);
        CHECK.due("run(200) to the next breakpoint", x.run(200), 1);
        CHECK.due("state(3)", x.state(3), READY);
    }

    private static void noBreakpointBehindTheLastPlace() {
        DOC.says(BREAKPOINTS, BEFORE_EACH);
        BarrelProcessor x = new BarrelProcessor();
        Check.type(x, "a00");
        x.assemble(47);
        for (int place = 0; place < 48; place++) {
            x.setBreakpoint(place, true);
        }
        x.set(LEND, 1);
        x.start(0, 47);
        CHECK.due("run(200) over the end of the program memory", x.run(200), 2);
        CHECK.due("state", x.state(0), HALTED);
    }

    private static void breakpointsMatterOnlyForRun() {
        DOC.says(BREAKPOINTS, "Breakpoints matter only for run:");
        BarrelProcessor x = Check.with("a00;s1=5;w11;h");
        x.set(LEND, 1);
        x.start(0, 0);
        for (int place = 0; place < 4; place++) {
            x.setBreakpoint(place, true);
        }
        CHECK.due("nextThread", x.nextThread(), 0);
        CHECK.due("cyclesLeft", x.cyclesLeft(), 4);
        CHECK.due("cyclesIf(0, 0)", x.cyclesIf(0, 0), 13);
        CHECK.due("bestLend", x.bestLend(), 1);
        CHECK.due("finalWord(5)", x.finalWord(5), 5);
        CHECK.due("run(200)", x.run(200), 1);
    }

    private static final String LAST_SIXTEEN = "The trace holds the last 16 executed instructions "
            + "(fewer if fewer were executed), each with the cycle, the thread and the place;";

    private static void traceHoldsSixteen() {
        DOC.says(TRACE, LAST_SIXTEEN);
        for (int executed = 15; executed <= 34; executed++) {
            BarrelProcessor x = Check.with("a00;a00;a00;a00;j0");
            x.start(3, 0);
            x.setSlot(0, 3);
            x.setSlot(4, 3);
            x.run(2 * executed);
            // Thread 3 has executed in the cycles 0, 3, 4, 7, 8 and so on.
            for (int ago = 0; ago < Math.min(16, executed); ago++) {
                int number = executed - 1 - ago;
                CHECK.due("trace(" + ago + ", 0) of " + executed, x.trace(ago, 0),
                        number / 2 * 4 + number % 2 * 3);
                CHECK.due("trace(" + ago + ", 1)", x.trace(ago, 1), 3);
                CHECK.due("trace(" + ago + ", 2)", x.trace(ago, 2), number % 5);
            }
            for (int part = 0; part < 3; part++) {
                CHECK.due("trace(15, part) of " + executed, x.trace(15, part) == NONE ? 0 : 1,
                        executed >= 16 ? 1 : 0);
                CHECK.due("trace(16, part) of " + executed, x.trace(16, part), NONE);
            }
        }
    }

    private static void traceOfFewer() {
        DOC.says(TRACE, LAST_SIXTEEN);
        BarrelProcessor x = Check.with("s0=1;j0");
        CHECK.due("trace(0, 0) of a new object", x.trace(0, 0), NONE);
        x.start(2, 0);
        x.run(2);
        CHECK.due("trace(0, 0) of idle cycles", x.trace(0, 0), NONE);
        x.run(1);
        CHECK.due("trace(0, 0)", x.trace(0, 0), 2);
        CHECK.due("trace(0, 1)", x.trace(0, 1), 2);
        CHECK.due("trace(0, 2)", x.trace(0, 2), 0);
        CHECK.due("trace(1, 0)", x.trace(1, 0), NONE);
        x.run(7);
        CHECK.due("trace(0, 0) of two", x.trace(0, 0), 6);
        CHECK.due("trace(0, 2) of two", x.trace(0, 2), 1);
        CHECK.due("trace(1, 2) of two", x.trace(1, 2), 0);
        CHECK.due("trace(2, 2) of two", x.trace(2, 2), NONE);
    }

    private static void traceOfTheHaltBehindTheLastPlace() {
        DOC.says(TRACE, "the place is 48 for a HALT that was executed because the program counter "
                + "was 48.");
        BarrelProcessor x = new BarrelProcessor();
        Check.type(x, "m00");
        x.assemble(47);
        x.start(1, 47);
        CHECK.due("run(200)", x.run(200), 6);
        CHECK.due("trace(0, 0)", x.trace(0, 0), 5);
        CHECK.due("trace(0, 1)", x.trace(0, 1), 1);
        CHECK.due("trace(0, 2)", x.trace(0, 2), 48);
        CHECK.due("trace(1, 2)", x.trace(1, 2), 47);
        x = new BarrelProcessor();
        x.start(1, 47);
        CHECK.due("run(200) to the HALT at 47", x.run(200), 2);
        CHECK.due("trace(0, 2) of the HALT at 47", x.trace(0, 2), 47);
    }

    private static void runTakesOneToTwoHundred() {
        DOC.says(RUN, "- `cycles`: 1 to 200: the greatest number of cycles",
                "Returns the number of cycles that were run (0 if all threads are halted "
                + "already);");
        int[] numbers = {1, 2, 8, 199, 200};
        for (int cycles : numbers) {
            BarrelProcessor x = Check.with("j0");
            x.start(0, 0);
            CHECK.due("run(" + cycles + ")", x.run(cycles), cycles);
            CHECK.due("cycle", x.cycle(), cycles);
            CHECK.due("executed", x.executed(0), (cycles + 3) / 4);
        }
    }

    private static void runRefusesOtherNumbers() {
        DOC.says(RUN, "BAD_VALUE if cycles is out of range.");
        Busy.refusesOutside(CHECK, "run", 1, 200, (x, cycles) -> x.run(cycles), BAD_VALUE);
        BarrelProcessor x = new BarrelProcessor();
        CHECK.due("run(0) of halted threads", x.run(0), BAD_VALUE);
        CHECK.due("run(201) of halted threads", x.run(201), BAD_VALUE);
    }

    private static void runOfHaltedThreads() {
        DOC.says(RUN, "(0 if all threads are halted already)");
        BarrelProcessor x = Check.with("j0");
        CHECK.due("run(1) of a new object", x.run(1), 0);
        CHECK.due("run(200) of a new object", x.run(200), 0);
        CHECK.due("cycle", x.cycle(), 0);
        CHECK.due("idle", x.idle(), 0);
        x.start(1, 0);
        x.halt(1);
        CHECK.due("run(1) of halted threads", x.run(1), 0);
        CHECK.due("cycle", x.cycle(), 0);
    }

    private static void runEndsWhenTheLastThreadHalts() {
        DOC.says(RUN, "or before a cycle at whose beginning all threads are halted.");
        for (int last = 0; last < 4; last++) {
            BarrelProcessor x = Check.with("h;a00;h");
            for (int thread = 0; thread < 4; thread++) {
                x.start(thread, thread == last ? 1 : 0);
            }
            CHECK.due("run(200) when the last one is " + last, x.run(200), 5 + last);
            CHECK.due("run(200) once more", x.run(200), 0);
            CHECK.due("cycle", x.cycle(), 5 + last);
        }
        BarrelProcessor x = Check.with("b;l00");
        x.start(0, 0);
        x.start(1, 1);
        x.run(2);
        CHECK.due("run(1) while one loads and one is at the barrier", x.run(1), 1);
        x.halt(1);
        CHECK.due("run(1) while one is at the barrier", x.run(1), 1);
    }
}
