/** The cycles: promises 10 (run) and 24 to 31 (counters, trace, use, nextThread). */
public final class CycleTest {
    private static final int NONE = BarrelProcessor.NONE;
    private static final int BAD_VALUE = BarrelProcessor.BAD_VALUE;
    private static final int HALTED = BarrelProcessor.HALTED;
    private static final int READY = BarrelProcessor.READY;
    private static final int LOADING = BarrelProcessor.LOADING;
    private static final int AT_BARRIER = BarrelProcessor.AT_BARRIER;
    private static final int LATENCY = BarrelProcessor.LATENCY;
    private static final int LEND = BarrelProcessor.LEND;
    private static final Check CHECK = new Check("CycleTest");

    public static void main(String[] args) {
        runErrors();
        calculations();
        storeAndSwap();
        jumps();
        behindTheLastPlace();
        loadTakesItsTime();
        loadWithoutLatency();
        loadKeepsWhatItWasTold();
        loadIntoEachRegister();
        barrierOpensTogether();
        barrierWaitsForALoad();
        barrierIgnoresHaltedThreads();
        lendToNobody();
        lendToTheNext();
        lendToTheLongestWaiting();
        startedThreadHasWaitedLongest();
        waitingGoesOnWhileLoading();
        slotsOfTheTable();
        starving();
        startEndsStarving();
        loadEndsStarving();
        breakpointsEndARun();
        breakpointOfAnotherThread();
        breakpointLeavesTheCycleUntouched();
        allHaltedEndsARun();
        traceHoldsSixteen();
        useOfTheCycles();
        nextThreadChangesNothing();
        CHECK.finish();
    }

    private static void runErrors() {
        BarrelProcessor x = Check.with("j0");
        x.start(0, 0);
        int[] wrongs = {0, -1, 201, Integer.MIN_VALUE, Integer.MAX_VALUE};
        for (int wrong : wrongs) {
            CHECK.due("run(" + wrong + ")", x.run(wrong), BAD_VALUE);
        }
        CHECK.due("cycle", x.cycle(), 0);
        CHECK.due("run(1)", x.run(1), 1);
        CHECK.due("run(200)", x.run(200), 200);
        CHECK.due("cycle", x.cycle(), 201);
    }

    /** Thread 0 with these registers has executed the one instruction. */
    private static BarrelProcessor after(String instruction, int r0, int r1) {
        BarrelProcessor x = Check.with(instruction);
        x.start(0, 0);
        x.setRegister(0, 0, r0);
        x.setRegister(0, 1, r1);
        CHECK.due("run(1) of " + instruction, x.run(1), 1);
        return x;
    }

    private static void calculations() {
        CHECK.due("s0=-99", after("s0=-99", 5, 6).register(0, 0), -99);
        CHECK.due("s0=99 keeps r1", after("s0=99", 5, 6).register(0, 1), 6);
        CHECK.due("a01", after("a01", 5, 6).register(0, 0), 11);
        CHECK.due("a01 keeps r1", after("a01", 5, 6).register(0, 1), 6);
        CHECK.due("a01 above", after("a01", 32767, 1).register(0, 0), -32768);
        CHECK.due("a01 below", after("a01", -32768, -1).register(0, 0), 32767);
        CHECK.due("a11", after("a11", 5, 6).register(0, 1), 12);
        CHECK.due("d01", after("d01", 5, 6).register(0, 0), -1);
        CHECK.due("d10", after("d10", 5, 6).register(0, 1), 1);
        CHECK.due("d01 below", after("d01", -32768, 1).register(0, 0), 32767);
        CHECK.due("d11", after("d11", 5, 6).register(0, 1), 0);
        CHECK.due("m01", after("m01", 5, -6).register(0, 0), -30);
        CHECK.due("m01 above", after("m01", 300, 300).register(0, 0), 24464);
        CHECK.due("m01 of the lowest", after("m01", -32768, -32768).register(0, 0), 0);
        CHECK.due("programCounter", after("a01", 5, 6).programCounter(0), 1);
        CHECK.due("state", after("a01", 5, 6).state(0), READY);
    }

    private static void storeAndSwap() {
        CHECK.due("w01", after("w01", 7, 3).word(3), 7);
        CHECK.due("w01 keeps r0", after("w01", 7, 3).register(0, 0), 7);
        CHECK.due("w01 by 5 bits", after("w01", 7, 33).word(1), 7);
        CHECK.due("w01 by a negative register", after("w01", 7, -1).word(31), 7);
        CHECK.due("w00", after("w00", 9, 0).word(9), 9);
        BarrelProcessor x = Check.with("x01;x00;x32");
        x.start(0, 0);
        x.setRegister(0, 0, 40);
        x.setRegister(0, 1, -27);
        x.setWord(5, 38);
        x.setWord(6, 12);
        x.run(1);
        CHECK.due("x01: word(5)", x.word(5), 40);
        CHECK.due("x01: register(0, 0)", x.register(0, 0), 38);
        CHECK.due("x01: register(0, 1)", x.register(0, 1), -27);
        x.run(4);
        CHECK.due("x00: word(6)", x.word(6), 38);
        CHECK.due("x00: register(0, 0)", x.register(0, 0), 12);
    }

    private static void jumps() {
        CHECK.due("j0", after("j0", 0, 0).programCounter(0), 0);
        CHECK.due("j47", after("j47", 0, 0).programCounter(0), 47);
        CHECK.due("z0>9 of 0", after("z0>9", 0, 1).programCounter(0), 9);
        CHECK.due("z0>9 of 1", after("z0>9", 1, 0).programCounter(0), 1);
        CHECK.due("z0>9 of -1", after("z0>9", -1, 0).programCounter(0), 1);
        CHECK.due("z1>9 of 0", after("z1>9", 1, 0).programCounter(0), 9);
        CHECK.due("n0>9 of -1", after("n0>9", -1, 0).programCounter(0), 9);
        CHECK.due("n0>9 of -32768", after("n0>9", -32768, 0).programCounter(0), 9);
        CHECK.due("n0>9 of 0", after("n0>9", 0, -1).programCounter(0), 1);
        CHECK.due("n1>9 of -1", after("n1>9", 0, -1).programCounter(0), 9);
        CHECK.due("b", after("b", 0, 0).state(0), AT_BARRIER);
        CHECK.due("b: programCounter", after("b", 0, 0).programCounter(0), 1);
        CHECK.due("h", after("h", 0, 0).state(0), HALTED);
        CHECK.due("h: programCounter", after("h", 0, 0).programCounter(0), 1);
    }

    private static void behindTheLastPlace() {
        BarrelProcessor x = new BarrelProcessor();
        Check.type(x, "a00");
        x.assemble(47);
        x.setBreakpoint(47, true);
        x.set(LEND, 1);
        x.start(2, 47);
        CHECK.due("run(1)", x.run(1), 1);
        CHECK.due("programCounter(2)", x.programCounter(2), 48);
        CHECK.due("state(2)", x.state(2), READY);
        CHECK.due("run(5)", x.run(5), 1);
        CHECK.due("programCounter(2)", x.programCounter(2), 48);
        CHECK.due("state(2)", x.state(2), HALTED);
        CHECK.due("executed(2)", x.executed(2), 2);
        CHECK.due("trace(0, 2)", x.trace(0, 2), 48);
        CHECK.due("trace(1, 2)", x.trace(1, 2), 47);
    }

    private static void loadTakesItsTime() {
        BarrelProcessor x = Check.with("l01;s2=1;h");
        x.setWord(31, 123);
        x.start(0, 0);
        x.setRegister(0, 1, -1);
        x.run(1);
        CHECK.due("state after the load", x.state(0), LOADING);
        CHECK.due("programCounter", x.programCounter(0), 1);
        x.run(3);
        CHECK.due("state before the cycle 4", x.state(0), LOADING);
        CHECK.due("register before the cycle 4", x.register(0, 0), 0);
        CHECK.due("nextThread for the cycle 4", x.nextThread(), 0);
        CHECK.due("idle", x.idle(), 3);
        x.run(1);
        CHECK.due("register after the cycle 4", x.register(0, 0), 123);
        CHECK.due("register(0, 2)", x.register(0, 2), 1);
        CHECK.due("executed", x.executed(0), 2);
        x = Check.with("l01;s2=1;h");
        x.set(LATENCY, 4);
        x.start(0, 0);
        x.run(5);
        CHECK.due("latency 4 misses the slot: executed", x.executed(0), 1);
        CHECK.due("state", x.state(0), LOADING);
        CHECK.due("nextThread", x.nextThread(), NONE);
        x.run(1);
        CHECK.due("state", x.state(0), READY);
        x.run(2);
        CHECK.due("starved", x.starved(0), 3);
        CHECK.due("nextThread", x.nextThread(), 0);
    }

    private static void loadWithoutLatency() {
        BarrelProcessor x = Check.with("l00;h");
        x.set(LATENCY, 0);
        x.set(LEND, 1);
        x.start(1, 0);
        x.setRegister(1, 0, 4);
        x.setWord(4, -5);
        CHECK.due("run(1)", x.run(1), 1);
        CHECK.due("state", x.state(1), LOADING);
        CHECK.due("run(9)", x.run(9), 1);
        CHECK.due("register", x.register(1, 0), -5);
        CHECK.due("idle", x.idle(), 0);
    }

    private static void loadKeepsWhatItWasTold() {
        BarrelProcessor x = Check.with("l01;h");
        x.setWord(6, 60);
        x.setWord(7, 70);
        x.start(0, 0);
        x.setRegister(0, 1, 6);
        x.run(1);
        x.setRegister(0, 1, 7);
        x.setRegister(0, 0, 5);
        x.setWord(6, 61);
        x.set(LATENCY, 20);
        CHECK.due("run(20)", x.run(20), 4);
        CHECK.due("the word as it is now, by the old number", x.register(0, 0), 61);
        CHECK.due("cycle: with the old latency", x.cycle(), 5);
    }

    private static void loadIntoEachRegister() {
        for (int r = 0; r < 4; r++) {
            for (int q = 0; q < 4; q++) {
                BarrelProcessor x = Check.with("l" + r + q + ";h");
                x.start(3, 0);
                x.setRegister(3, q, 17);
                x.setWord(17, -32768);
                x.run(20);
                for (int other = 0; other < 4; other++) {
                    int want = other == r ? -32768 : other == q ? 17 : 0;
                    CHECK.due("l" + r + q + ": register " + other, x.register(3, other), want);
                }
            }
        }
    }

    private static void barrierOpensTogether() {
        BarrelProcessor x = Check.with("b;s0=1;h");
        x.start(0, 0);
        x.start(1, 0);
        x.start(2, 0);
        x.run(2);
        CHECK.due("state(0)", x.state(0), AT_BARRIER);
        CHECK.due("state(1)", x.state(1), AT_BARRIER);
        CHECK.due("state(2)", x.state(2), READY);
        x.run(1);
        CHECK.due("state(0) after all came", x.state(0), AT_BARRIER);
        CHECK.due("nextThread in the slot of 3", x.nextThread(), NONE);
        x.run(1);
        CHECK.due("state(0)", x.state(0), READY);
        CHECK.due("state(1)", x.state(1), READY);
        CHECK.due("state(2)", x.state(2), READY);
        CHECK.due("idle", x.idle(), 1);
        CHECK.due("starved(0)", x.starved(0), 1);
        x.run(3);
        CHECK.due("register(0, 0)", x.register(0, 0), 1);
        CHECK.due("register(2, 0)", x.register(2, 0), 1);
    }

    private static void barrierWaitsForALoad() {
        BarrelProcessor x = Check.with("b;h;l00;b;h");
        x.start(0, 0);
        x.start(1, 2);
        x.run(5);
        CHECK.due("state(0)", x.state(0), AT_BARRIER);
        CHECK.due("state(1)", x.state(1), LOADING);
        CHECK.due("nextThread", x.nextThread(), 1);
        x.run(1);
        CHECK.due("state(1)", x.state(1), AT_BARRIER);
        CHECK.due("state(0)", x.state(0), AT_BARRIER);
        x.run(1);
        CHECK.due("state(0)", x.state(0), READY);
        CHECK.due("state(1)", x.state(1), READY);
    }

    private static void barrierIgnoresHaltedThreads() {
        BarrelProcessor x = Check.with("b;j0;j2");
        x.start(0, 0);
        x.start(1, 2);
        x.run(9);
        CHECK.due("state(0)", x.state(0), AT_BARRIER);
        CHECK.due("halt(1)", x.halt(1), READY);
        x.run(1);
        CHECK.due("state(0)", x.state(0), READY);
        BarrelProcessor alone = Check.with("b;h");
        alone.set(LEND, 1);
        alone.start(3, 0);
        CHECK.due("run(9) of one thread", alone.run(9), 2);
        CHECK.due("state(3)", alone.state(3), HALTED);
    }

    private static void lendToNobody() {
        BarrelProcessor x = Check.with("j0");
        x.start(1, 0);
        CHECK.due("nextThread in the slot of 0", x.nextThread(), NONE);
        x.run(8);
        CHECK.due("executed(1)", x.executed(1), 2);
        CHECK.due("lent(1)", x.lent(1), 0);
        CHECK.due("idle", x.idle(), 6);
        CHECK.due("starved(1)", x.starved(1), 3);
        CHECK.due("starved(0)", x.starved(0), 0);
    }

    private static void issuers(BarrelProcessor x, int... want) {
        for (int thread : want) {
            CHECK.due("nextThread", x.nextThread(), thread);
            CHECK.due("run(1)", x.run(1), 1);
            CHECK.due("trace(0, 1)", x.trace(0, 1), thread);
            CHECK.due("trace(0, 0)", x.trace(0, 0), x.cycle() - 1);
        }
    }

    private static void lendToTheNext() {
        BarrelProcessor x = Check.with("j0");
        x.set(LEND, 1);
        x.start(2, 0);
        x.start(3, 0);
        issuers(x, 2, 2, 2, 3, 2, 2, 2, 3);
        CHECK.due("lent(2)", x.lent(2), 4);
        CHECK.due("lent(3)", x.lent(3), 0);
        CHECK.due("executed(2)", x.executed(2), 6);
        CHECK.due("starved(2)", x.starved(2), 1);
        CHECK.due("starved(3)", x.starved(3), 3);
        CHECK.due("idle", x.idle(), 0);
        x.halt(2);
        x.halt(3);
        x.start(0, 0);
        x.start(1, 0);
        x.setSlot(0, 3);
        x.setSlot(1, 2);
        issuers(x, 0, 0, 0, 0, 0, 1, 0, 0);
    }

    private static void lendToTheLongestWaiting() {
        BarrelProcessor x = Check.with("j0");
        x.set(LEND, 2);
        x.start(1, 0);
        x.start(2, 0);
        x.start(3, 0);
        issuers(x, 1, 1, 2, 3, 1, 1, 2, 3);
        CHECK.due("lent(1)", x.lent(1), 2);
        x.halt(1);
        issuers(x, 2, 3, 2, 3, 2, 3, 2, 3);
        CHECK.due("lent(2)", x.lent(2), 2);
        CHECK.due("lent(3)", x.lent(3), 2);
    }

    private static void startedThreadHasWaitedLongest() {
        BarrelProcessor x = Check.with("j0");
        x.set(LEND, 2);
        x.start(1, 0);
        x.start(2, 0);
        x.start(3, 0);
        x.run(8);
        x.start(3, 0);
        issuers(x, 3, 1, 2, 3);
        x.start(2, 0);
        x.start(3, 0);
        issuers(x, 2, 1, 2, 3);
        x.halt(1);
        x.halt(2);
        x.halt(3);
        CHECK.due("nextThread of nobody", x.nextThread(), NONE);
        CHECK.due("run(1)", x.run(1), 0);
    }

    /** Thread 3 has waited since the cycle 0, though it was loading most of that time. */
    private static void waitingGoesOnWhileLoading() {
        BarrelProcessor x = Check.with("l00;j1");
        x.set(LEND, 2);
        x.set(LATENCY, 6);
        x.start(3, 0);
        x.run(1);
        CHECK.due("state(3)", x.state(3), LOADING);
        x.start(1, 1);
        x.start(2, 1);
        issuers(x, 1, 2, 1, 2, 1, 2, 3, 1);
    }

    private static void slotsOfTheTable() {
        BarrelProcessor x = Check.with("j0");
        for (int t = 0; t < 4; t++) {
            x.start(t, 0);
        }
        issuers(x, 0, 1, 2, 3, 0, 1, 2, 3, 0);
        x.setSlot(1, 3);
        x.setSlot(4, 2);
        issuers(x, 3, 2, 3, 2, 1, 2, 3, 0, 3);
        CHECK.due("lent(3)", x.lent(3), 0);
    }

    private static void starving() {
        BarrelProcessor x = Check.with("j0");
        x.start(0, 0);
        x.start(1, 0);
        CHECK.due("starved(0)", x.starved(0), 0);
        x.run(1);
        CHECK.due("starved(0)", x.starved(0), 0);
        CHECK.due("starved(1)", x.starved(1), 1);
        x.run(1);
        CHECK.due("starved(0)", x.starved(0), 1);
        x.run(10);
        CHECK.due("starved(0)", x.starved(0), 3);
        CHECK.due("starved(1)", x.starved(1), 3);
        for (int slot = 0; slot < 8; slot++) {
            x.setSlot(slot, 1);
        }
        x.run(5);
        CHECK.due("starved(0)", x.starved(0), 8);
        x.setSlot(1, 0);
        x.run(1);
        CHECK.due("starved(0)", x.starved(0), 8);
        x.run(7);
        CHECK.due("the sequence began anew", x.starved(0), 8);
        CHECK.due("executed(0)", x.executed(0), 4);
    }

    private static void startEndsStarving() {
        BarrelProcessor x = Check.with("j0");
        x.start(0, 0);
        x.run(3);
        CHECK.due("starved(0)", x.starved(0), 2);
        CHECK.due("start(0, 0)", x.start(0, 0), READY);
        CHECK.due("start keeps it", x.starved(0), 2);
        x.run(1);
        CHECK.due("starved(0)", x.starved(0), 2);
        x.run(2);
        x.halt(0);
        CHECK.due("halt keeps it", x.starved(0), 2);
        x.start(0, 0);
        x.run(2);
        CHECK.due("starved(0)", x.starved(0), 2);
        x.setSlot(0, 1);
        x.run(1);
        CHECK.due("starved(0)", x.starved(0), 3);
    }

    private static void loadEndsStarving() {
        BarrelProcessor x = Check.with("l00;l00;l00;l00;j0");
        x.set(LATENCY, 1);
        x.start(0, 0);
        x.run(40);
        CHECK.due("only two cycles after each load", x.starved(0), 3);
        x = Check.with("l00;l00;l00;l00;l00;l00;l00");
        x.set(LATENCY, 1);
        x.start(0, 0);
        x.run(20);
        CHECK.due("ready in two cycles, then its slot", x.starved(0), 2);
    }

    private static void breakpointsEndARun() {
        BarrelProcessor x = Check.with("s0=1;s1=2;s2=3;j0");
        x.setBreakpoint(0, true);
        x.setBreakpoint(2, true);
        x.start(0, 0);
        CHECK.due("run(50) from a breakpoint", x.run(50), 8);
        CHECK.due("programCounter", x.programCounter(0), 2);
        CHECK.due("register(0, 2)", x.register(0, 2), 0);
        CHECK.due("run(50) from a breakpoint", x.run(50), 8);
        CHECK.due("programCounter", x.programCounter(0), 0);
        CHECK.due("run(7)", x.run(7), 7);
        CHECK.due("run(8) from a breakpoint at the first cycle", x.run(8), 1);
        CHECK.due("cycle", x.cycle(), 24);
        x.setBreakpoint(0, false);
        x.setBreakpoint(2, false);
        CHECK.due("run(50)", x.run(50), 50);
    }

    private static void breakpointOfAnotherThread() {
        BarrelProcessor x = Check.with("j0;j1");
        x.setBreakpoint(1, true);
        x.start(0, 0);
        CHECK.due("run(20) of thread 0", x.run(20), 20);
        x.start(2, 1);
        CHECK.due("run(20) to the slot of thread 2", x.run(20), 2);
        CHECK.due("run(20) to its next slot", x.run(20), 4);
        CHECK.due("executed(2)", x.executed(2), 1);
        x.halt(2);
        CHECK.due("run(20) without it", x.run(20), 20);
    }

    private static void breakpointLeavesTheCycleUntouched() {
        BarrelProcessor x = Check.with("l00;a00;b;a00;h");
        x.setWord(0, 5);
        x.setBreakpoint(1, true);
        x.setBreakpoint(3, true);
        x.start(0, 0);
        CHECK.due("run(50) to the end of the load", x.run(50), 4);
        CHECK.due("state(0)", x.state(0), LOADING);
        CHECK.due("register(0, 0)", x.register(0, 0), 0);
        CHECK.due("nextThread", x.nextThread(), 0);
        x.setWord(0, 6);
        CHECK.due("run(5)", x.run(5), 5);
        CHECK.due("register(0, 0)", x.register(0, 0), 12);
        CHECK.due("state(0)", x.state(0), AT_BARRIER);
        x = Check.with("b;a00;h");
        x.setBreakpoint(1, true);
        x.set(LEND, 1);
        x.start(0, 0);
        CHECK.due("run(50) to the opening of the barrier", x.run(50), 1);
        CHECK.due("state(0)", x.state(0), AT_BARRIER);
    }

    private static void allHaltedEndsARun() {
        BarrelProcessor x = Check.with("h");
        CHECK.due("run(9) of nobody", x.run(9), 0);
        CHECK.due("cycle", x.cycle(), 0);
        x.start(3, 0);
        CHECK.due("run(9)", x.run(9), 4);
        CHECK.due("run(9)", x.run(9), 0);
        CHECK.due("cycle", x.cycle(), 4);
        CHECK.due("idle", x.idle(), 3);
    }

    private static void traceHoldsSixteen() {
        BarrelProcessor x = Check.with("a00;a00;j0");
        x.set(LEND, 1);
        CHECK.due("trace(0, 0)", x.trace(0, 0), NONE);
        x.start(1, 0);
        x.run(3);
        CHECK.due("trace(0, 2)", x.trace(0, 2), 2);
        CHECK.due("trace(2, 2)", x.trace(2, 2), 0);
        CHECK.due("trace(3, 2)", x.trace(3, 2), NONE);
        x.run(17);
        for (int ago = 0; ago < 16; ago++) {
            CHECK.due("trace(" + ago + ", 0)", x.trace(ago, 0), 19 - ago);
            CHECK.due("trace(" + ago + ", 1)", x.trace(ago, 1), 1);
            CHECK.due("trace(" + ago + ", 2)", x.trace(ago, 2), (19 - ago) % 3);
        }
        CHECK.due("trace(16, 0)", x.trace(16, 0), NONE);
        CHECK.due("trace of the greatest int", x.trace(Integer.MAX_VALUE, 2), NONE);
        CHECK.due("trace(-1, 0)", x.trace(-1, 0), BAD_VALUE);
        CHECK.due("trace of the least int", x.trace(Integer.MIN_VALUE, 0), BAD_VALUE);
        CHECK.due("trace(0, 3)", x.trace(0, 3), BAD_VALUE);
        CHECK.due("trace(0, -1)", x.trace(0, -1), BAD_VALUE);
        CHECK.due("trace(99, 3)", x.trace(99, 3), BAD_VALUE);
        x.set(LEND, 0);
        x.run(4);
        CHECK.due("idle cycles are not in the trace", x.trace(1, 0), 19);
    }

    private static void useOfTheCycles() {
        BarrelProcessor x = Check.with("j0");
        CHECK.dueFloat("use", x.use(), 0.0f);
        x.start(2, 0);
        x.run(2);
        CHECK.dueFloat("use of two idle cycles", x.use(), 0.0f);
        x.run(1);
        CHECK.dueFloat("use", x.use(), 1.0f / 3.0f);
        x.run(4);
        CHECK.dueFloat("use", x.use(), 2.0f / 7.0f);
        CHECK.due("idle", x.idle(), 5);
        x.undo();
        x.undo();
        x.undo();
        CHECK.dueFloat("use", x.use(), 0.0f);
        x.set(LEND, 1);
        x.run(200);
        CHECK.dueFloat("use", x.use(), 1.0f);
    }

    private static BarrelProcessor afterCycles(int cycles) {
        BarrelProcessor x = Check.with("l00;b;j0");
        x.set(LEND, 2);
        x.start(0, 0);
        x.start(2, 1);
        x.run(cycles);
        return x;
    }

    private static void nextThreadChangesNothing() {
        for (int cycles = 1; cycles <= 20; cycles++) {
            BarrelProcessor x = afterCycles(cycles);
            x.nextThread();
            CHECK.dueText("the state", Check.stateOf(x), Check.stateOf(afterCycles(cycles)));
            int next = x.nextThread();
            int idle = x.idle();
            x.run(1);
            CHECK.due("nextThread", next, x.idle() > idle ? NONE : x.trace(0, 1));
        }
    }
}
