/** Each sentence of promises 31 to 35 (what would be), at its edges. */
public final class ForecastEdgeTest {
    private static final String NEXT_THREAD = "Promise 31: nextThread";
    private static final String CYCLES_LEFT = "Promise 32: cyclesLeft";
    private static final String CYCLES_IF = "Promise 33: cyclesIf";
    private static final String BEST_LEND = "Promise 34: bestLend";
    private static final String FINAL_WORD = "Promise 35: finalWord";
    private static final int NO_SUCH = BarrelProcessor.NO_SUCH;
    private static final int BAD_VALUE = BarrelProcessor.BAD_VALUE;
    private static final int NONE = BarrelProcessor.NONE;
    private static final int LATENCY = BarrelProcessor.LATENCY;
    private static final int LEND = BarrelProcessor.LEND;
    private static final Check CHECK = new Check("ForecastEdgeTest");
    private static final Document DOC = new Document(CHECK, NEXT_THREAD, CYCLES_LEFT, CYCLES_IF,
            BEST_LEND, FINAL_WORD);

    public static void main(String[] args) {
        nextThreadOfEach();
        nextThreadOfNone();
        nextThreadBehindALoadAndABarrier();
        nextThreadComesTrue();
        cyclesLeftOfNone();
        cyclesLeftUpToFiveHundred();
        cyclesLeftWithoutRegardToBreakpoints();
        cyclesLeftForEver();
        cyclesIfTakesItsRanges();
        cyclesIfRefusesOthers();
        cyclesIfUpToFiveHundred();
        cyclesIfKeepsALoadThatIsOnItsWay();
        bestLendOfSeveral();
        bestLendOfEach();
        bestLendUpToFiveHundred();
        bestLendOfNone();
        bestLendKeepsTheLatency();
        finalWordOfEachNumber();
        finalWordRefusesOthers();
        finalWordUpToFiveHundred();
        finalWordOfHaltedThreads();
        finalWordWithTheSettingsAsTheyAre();
        finalWordBehindALoadThatIsOnItsWay();
        forecastsChangeNothing();
        DOC.finish();
        CHECK.finish();
    }

    private static void giveAllSlotsTo(BarrelProcessor x, int thread) {
        for (int slot = 0; slot < 8; slot++) {
            x.setSlot(slot, thread);
        }
    }

    /**
     * Thread 0 stores 1 in the word 1 and needs so many cycles (8 or more) till it is halted, in
     * slots of its own; with LEND 0 it is never halted, with LEND 1 and 2 it is.
     */
    private static BarrelProcessor needing(int cycles) {
        BarrelProcessor x = Check.with("a00;a00;a00;s1=1;w11;d21;n2>8;j5;h");
        x.set(LEND, 1);
        giveAllSlotsTo(x, 3);
        // From the place 3 on: s1, w11, then d21, n2 and j5 again and again, then d21, n2 and h.
        int rest = (cycles - 2) % 3;
        x.start(0, 3 - rest);
        x.setRegister(0, 2, (cycles - 2) / 3 - 1);
        return x;
    }

    private static void nextThreadOfEach() {
        DOC.says(NEXT_THREAD, "Tells which thread would be the issuing thread of the next cycle.",
                "Returns the thread;");
        for (int lend = 0; lend <= 2; lend++) {
            for (int thread = 0; thread < 4; thread++) {
                BarrelProcessor x = Check.with("j0");
                x.set(LEND, lend);
                x.start(thread, 0);
                for (int cycle = 0; cycle < 9; cycle++) {
                    boolean isIts = lend != 0 || cycle % 4 == thread;
                    CHECK.due("nextThread with LEND " + lend, x.nextThread(),
                            isIts ? thread : NONE);
                    x.run(1);
                }
            }
        }
    }

    private static void nextThreadOfNone() {
        DOC.says(NEXT_THREAD, "NONE if there would be none.");
        BarrelProcessor x = Check.with("j0;h;l00");
        CHECK.due("nextThread at first", x.nextThread(), NONE);
        x.start(1, 0);
        CHECK.due("nextThread in the slot of 0", x.nextThread(), NONE);
        x.set(LEND, 1);
        CHECK.due("nextThread with LEND 1", x.nextThread(), 1);
        x.halt(1);
        CHECK.due("nextThread of halted threads", x.nextThread(), NONE);
        x.start(1, 2);
        x.run(1);
        CHECK.due("nextThread while it loads", x.nextThread(), NONE);
        x.start(1, 1);
        x.run(1);
        CHECK.due("nextThread after its halt", x.nextThread(), NONE);
    }

    private static void nextThreadBehindALoadAndABarrier() {
        DOC.says(NEXT_THREAD, "Tells which thread would be the issuing thread of the next cycle.");
        BarrelProcessor x = Check.with("l00;b;h");
        x.set(LEND, 1);
        x.set(LATENCY, 1);
        x.start(2, 0);
        x.run(1);
        CHECK.due("nextThread one cycle too early", x.nextThread(), NONE);
        x.run(1);
        CHECK.due("nextThread in the cycle in which the load ends", x.nextThread(), 2);
        CHECK.due("state: asking ends no load", x.state(2), BarrelProcessor.LOADING);
        x.run(1);
        CHECK.due("nextThread when the barrier opens", x.nextThread(), 2);
        CHECK.due("state: asking opens no barrier", x.state(2), BarrelProcessor.AT_BARRIER);
        x.start(0, 2);
        CHECK.due("nextThread while another is ready", x.nextThread(), 0);
    }

    private static void nextThreadComesTrue() {
        DOC.says(NEXT_THREAD, "Tells which thread would be the issuing thread of the next cycle.");
        for (int lend = 0; lend <= 2; lend++) {
            BarrelProcessor x = Check.with("l01;b;a00;j0;j0");
            x.set(LEND, lend);
            for (int thread = 0; thread < 4; thread++) {
                x.start(thread, thread);
            }
            for (int cycle = 0; cycle < 90; cycle++) {
                int idle = x.idle();
                int next = x.nextThread();
                x.run(1);
                CHECK.due("nextThread of the cycle " + cycle, next,
                        x.idle() > idle ? NONE : x.trace(0, 1));
            }
        }
    }

    private static void cyclesLeftOfNone() {
        DOC.says(CYCLES_LEFT, "Tells after how many cycles all threads would be halted, without "
                + "regard to breakpoints.");
        BarrelProcessor x = new BarrelProcessor();
        CHECK.due("cyclesLeft of halted threads", x.cyclesLeft(), 0);
        for (int thread = 0; thread < 4; thread++) {
            x.start(thread, 0);
            CHECK.due("cyclesLeft to the HALT of " + thread, x.cyclesLeft(), thread + 1);
        }
        x.run(4);
        CHECK.due("cyclesLeft behind all", x.cyclesLeft(), 0);
    }

    private static void cyclesLeftUpToFiveHundred() {
        DOC.says(CYCLES_LEFT, "Returns the number of cycles;", "NONE if it is more than 500.");
        int[] numbers = {8, 9, 10, 498, 499, 500, 501, 502, 503};
        for (int cycles : numbers) {
            BarrelProcessor x = needing(cycles);
            CHECK.due("cyclesLeft of " + cycles, x.cyclesLeft(), cycles > 500 ? NONE : cycles);
            x.run(1);
            CHECK.due("cyclesLeft of " + (cycles - 1), x.cyclesLeft(),
                    cycles > 501 ? NONE : cycles - 1);
            int run = 1 + x.run(200) + x.run(200) + x.run(200);
            CHECK.due("the cycles in truth", run, cycles);
        }
    }

    private static void cyclesLeftWithoutRegardToBreakpoints() {
        DOC.says(CYCLES_LEFT, "without regard to breakpoints.");
        BarrelProcessor x = needing(500);
        for (int place = 0; place < 48; place++) {
            x.setBreakpoint(place, true);
        }
        CHECK.due("cyclesLeft", x.cyclesLeft(), 500);
        CHECK.due("run(200)", x.run(200), 1);
        CHECK.due("cyclesLeft", x.cyclesLeft(), 499);
    }

    private static void cyclesLeftForEver() {
        DOC.says(CYCLES_LEFT, "NONE if it is more than 500.");
        BarrelProcessor x = Check.with("j0;b;l00");
        x.start(3, 0);
        CHECK.due("cyclesLeft of a loop", x.cyclesLeft(), NONE);
        x.start(2, 1);
        CHECK.due("cyclesLeft of a loop and a barrier", x.cyclesLeft(), NONE);
        x.halt(3);
        CHECK.due("cyclesLeft of the barrier and a load", x.cyclesLeft(), 11);
        Check.type(x, "h");
        x.assemble(2);
        CHECK.due("cyclesLeft with a HALT behind it", x.cyclesLeft(), 7);
        giveAllSlotsTo(x, 3);
        CHECK.due("cyclesLeft without a slot", x.cyclesLeft(), NONE);
    }

    private static void cyclesIfTakesItsRanges() {
        DOC.says(CYCLES_IF, "Tells after how many cycles all threads would be halted if the "
                + "settings were changed now.", "- `latency`: 0 to 20", "- `lend`: 0 to 2",
                "Returns the number of cycles;");
        BarrelProcessor x = Check.with("l00;h");
        x.start(0, 0);
        for (int latency = 0; latency <= 20; latency++) {
            CHECK.due("cyclesIf(" + latency + ", 0)", x.cyclesIf(latency, 0),
                    4 * (latency / 4) + 5);
            CHECK.due("cyclesIf(" + latency + ", 1)", x.cyclesIf(latency, 1), latency + 2);
            CHECK.due("cyclesIf(" + latency + ", 2)", x.cyclesIf(latency, 2), latency + 2);
        }
        CHECK.due("setting(LATENCY)", x.setting(LATENCY), 3);
        CHECK.due("setting(LEND)", x.setting(LEND), 0);
        CHECK.due("cyclesLeft", x.cyclesLeft(), 5);
        x = new BarrelProcessor();
        CHECK.due("cyclesIf(0, 0) of halted threads", x.cyclesIf(0, 0), 0);
        CHECK.due("cyclesIf(20, 2) of halted threads", x.cyclesIf(20, 2), 0);
    }

    private static void cyclesIfRefusesOthers() {
        DOC.says(CYCLES_IF, "BAD_VALUE if an argument is out of range;");
        for (int lend = -1; lend <= 3; lend++) {
            int one = lend;
            Busy.refusesOutside(CHECK, "cyclesIf with LEND " + lend, 0, 20,
                    (x, latency) -> x.cyclesIf(latency, one), BAD_VALUE);
        }
        int[] latencies = {0, 3, 20};
        for (int latency : latencies) {
            Busy.refusesOutside(CHECK, "cyclesIf with LATENCY " + latency, 0, 2,
                    (x, lend) -> x.cyclesIf(latency, lend), BAD_VALUE);
        }
    }

    private static void cyclesIfUpToFiveHundred() {
        DOC.says(CYCLES_IF, "NONE if it is more than 500.");
        int[] numbers = {498, 499, 500, 501, 502, 503};
        for (int cycles : numbers) {
            BarrelProcessor x = needing(cycles);
            int want = cycles > 500 ? NONE : cycles;
            x.set(LEND, 0);
            CHECK.due("cyclesIf(0, 0) of " + cycles, x.cyclesIf(0, 0), NONE);
            CHECK.due("cyclesIf(0, 1) of " + cycles, x.cyclesIf(0, 1), want);
            CHECK.due("cyclesIf(20, 2) of " + cycles, x.cyclesIf(20, 2), want);
            CHECK.due("cyclesLeft with LEND 0", x.cyclesLeft(), NONE);
        }
    }

    private static void cyclesIfKeepsALoadThatIsOnItsWay() {
        DOC.says(CYCLES_IF, "if the settings were changed now.");
        BarrelProcessor x = Check.with("l00;l00;h");
        x.set(LATENCY, 10);
        x.set(LEND, 1);
        x.start(0, 0);
        x.run(1);
        // Ten more cycles of the first load; the second one has the latency of the question.
        CHECK.due("cyclesIf(0, 1)", x.cyclesIf(0, 1), 10 + 1 + 0 + 1);
        CHECK.due("cyclesIf(20, 1)", x.cyclesIf(20, 1), 10 + 1 + 20 + 1);
        CHECK.due("cyclesLeft", x.cyclesLeft(), 10 + 1 + 10 + 1);
        x.set(LATENCY, 0);
        CHECK.due("cyclesLeft", x.cyclesLeft(), 10 + 1 + 0 + 1);
    }

    private static final String FEWEST = "Finds the value of LEND with which all threads would be "
            + "halted after the fewest cycles;";

    private static void bestLendOfSeveral() {
        DOC.says(BEST_LEND, FEWEST, "of several, the lowest one.", "Returns the value;");
        BarrelProcessor x = Check.with("a00;h");
        for (int lend = 0; lend <= 2; lend++) {
            x.set(LEND, lend);
            CHECK.due("bestLend of halted threads", x.bestLend(), 0);
        }
        x.start(0, 0);
        for (int lend = 0; lend <= 2; lend++) {
            x.set(LEND, lend);
            CHECK.due("bestLend of 1 and 2 alike", x.bestLend(), 1);
        }
        giveAllSlotsTo(x, 0);
        for (int lend = 0; lend <= 2; lend++) {
            x.set(LEND, lend);
            CHECK.due("bestLend of all alike", x.bestLend(), 0);
        }
    }

    private static void bestLendOfEach() {
        DOC.says(BEST_LEND, FEWEST);
        // The slots are those of thread 3: with LEND 1 thread 1 loads only after thread 0 halts.
        BarrelProcessor x = Check.with("a00;a00;a00;a00;h;l00;h");
        x.set(LATENCY, 20);
        giveAllSlotsTo(x, 3);
        x.start(0, 0);
        x.start(1, 5);
        CHECK.due("cyclesIf(20, 0)", x.cyclesIf(20, 0), NONE);
        CHECK.due("cyclesIf(20, 1)", x.cyclesIf(20, 1), 27);
        CHECK.due("cyclesIf(20, 2)", x.cyclesIf(20, 2), 23);
        CHECK.due("bestLend", x.bestLend(), 2);
        // Thread 0 loads: it should go first, as with LEND 1.
        x = Check.with("a00;a00;a00;a00;h;a00;l00;h");
        x.set(LATENCY, 20);
        giveAllSlotsTo(x, 3);
        x.start(0, 5);
        x.start(1, 0);
        CHECK.due("cyclesIf(20, 1)", x.cyclesIf(20, 1), 23);
        CHECK.due("cyclesIf(20, 2)", x.cyclesIf(20, 2), 24);
        CHECK.due("bestLend", x.bestLend(), 1);
        // With slots of its own the loading thread goes first with LEND 0 as well.
        giveAllSlotsTo(x, 0);
        x.setSlot(4, 1);
        CHECK.due("cyclesIf(20, 0)", x.cyclesIf(20, 0), 37);
        CHECK.due("cyclesIf(20, 1)", x.cyclesIf(20, 1), 23);
        CHECK.due("bestLend", x.bestLend(), 1);
    }

    private static void bestLendUpToFiveHundred() {
        DOC.says(BEST_LEND, "NONE if it is more than 500 cycles with each value.");
        int[] numbers = {498, 499, 500, 501, 502, 503};
        for (int cycles : numbers) {
            BarrelProcessor x = needing(cycles);
            CHECK.due("bestLend of " + cycles, x.bestLend(), cycles > 500 ? NONE : 1);
            giveAllSlotsTo(x, 0);
            x.set(LEND, 2);
            CHECK.due("bestLend of " + cycles + " in slots of its own", x.bestLend(),
                    cycles > 500 ? NONE : 0);
        }
        // Two threads in turn: with LEND 1 the first one of both never lets the other one in.
        BarrelProcessor x = Check.with("l01;z0>0;h;s0=1;w01;h");
        giveAllSlotsTo(x, 0);
        x.set(LATENCY, 0);
        x.start(1, 0);
        x.start(2, 3);
        CHECK.due("bestLend of one that is in time", x.bestLend(), 2);
    }

    private static void bestLendOfNone() {
        DOC.says(BEST_LEND, "NONE if it is more than 500 cycles with each value.");
        BarrelProcessor x = Check.with("j0");
        x.start(1, 0);
        for (int lend = 0; lend <= 2; lend++) {
            x.set(LEND, lend);
            CHECK.due("bestLend of a loop", x.bestLend(), NONE);
        }
    }

    private static void bestLendKeepsTheLatency() {
        DOC.says(BEST_LEND, FEWEST);
        BarrelProcessor x = Check.with("l00;h");
        x.setSlot(5, 0);
        x.setSlot(6, 0);
        x.start(0, 0);
        // In the slots 0 and 4 to 6 it is as soon through with LEND 0 as with the others.
        int[] best = {1, 1, 1, 0, 0, 0, 1, 0, 1};
        for (int latency = 0; latency < best.length; latency++) {
            x.set(LATENCY, latency);
            CHECK.due("bestLend with the latency " + latency, x.bestLend(), best[latency]);
        }
    }

    private static void finalWordOfEachNumber() {
        DOC.says(FINAL_WORD, "Tells which value a word would have when all threads are halted.",
                "- `word`: 0 to 31", "Returns the value;");
        for (int word = 0; word < 32; word++) {
            BarrelProcessor x = Check.with("s0=-99;m00;m00;s1=" + word + ";w01;h");
            x.setWord(word, 7);
            x.setWord(31 - word, 8);
            x.start(2, 0);
            // -99 to the power of 4 is 96059601, and its lowest 16 bits are -16175.
            CHECK.due("finalWord(" + word + ")", x.finalWord(word), -16175);
            CHECK.due("finalWord of another", x.finalWord(31 - word), 8);
            CHECK.due("word", x.word(word), 7);
            x.run(200);
            CHECK.due("word at the end", x.word(word), -16175);
            CHECK.due("finalWord at the end", x.finalWord(word), -16175);
        }
    }

    private static void finalWordRefusesOthers() {
        DOC.says(FINAL_WORD, "NO_SUCH if there is no such word;");
        Busy.refusesOutside(CHECK, "finalWord", 0, 31, (x, word) -> x.finalWord(word), NO_SUCH);
        BarrelProcessor x = new BarrelProcessor();
        CHECK.due("finalWord(-1) of halted threads", x.finalWord(-1), NO_SUCH);
        CHECK.due("finalWord(32) of halted threads", x.finalWord(32), NO_SUCH);
    }

    private static void finalWordUpToFiveHundred() {
        DOC.says(FINAL_WORD, "NONE if it is more than 500 cycles until then.");
        int[] numbers = {8, 498, 499, 500, 501, 502, 503};
        for (int cycles : numbers) {
            BarrelProcessor x = needing(cycles);
            CHECK.due("finalWord(1) of " + cycles, x.finalWord(1), cycles > 500 ? NONE : 1);
            CHECK.due("finalWord(0) of " + cycles, x.finalWord(0), cycles > 500 ? NONE : 0);
            x.set(LEND, 0);
            CHECK.due("finalWord(1) with LEND 0", x.finalWord(1), NONE);
        }
    }

    private static void finalWordOfHaltedThreads() {
        DOC.says(FINAL_WORD, "Tells which value a word would have when all threads are halted.");
        BarrelProcessor x = new BarrelProcessor();
        x.setWord(0, -32768);
        x.setWord(31, 32767);
        CHECK.due("finalWord(0)", x.finalWord(0), -32768);
        CHECK.due("finalWord(31)", x.finalWord(31), 32767);
        CHECK.due("finalWord(1)", x.finalWord(1), 0);
    }

    private static void finalWordWithTheSettingsAsTheyAre() {
        DOC.says(FINAL_WORD, "Tells which value a word would have when all threads are halted.");
        // Thread 0 loads in the cycle 0; thread 1 stores 5 in that word in the cycle 9.
        BarrelProcessor x = Check.with("a00;l01;w02;h;a00;s0=5;w01;h");
        x.start(0, 1);
        x.setRegister(0, 2, 3);
        x.start(1, 4);
        for (int latency = 0; latency <= 20; latency++) {
            x.set(LATENCY, latency);
            CHECK.due("finalWord(3) with the latency " + latency, x.finalWord(3),
                    latency <= 8 ? 0 : 5);
        }
        // In slots of thread 3, thread 1 stores in the cycle 4; thread 0 loads with LEND 1 in the
        // cycle 1, and with LEND 2, in turn with thread 1, in the cycle 2.
        giveAllSlotsTo(x, 3);
        x.start(0, 0);
        x.setRegister(0, 2, 3);
        x.set(LATENCY, 2);
        CHECK.due("finalWord(3) with LEND 0", x.finalWord(3), NONE);
        x.set(LEND, 1);
        CHECK.due("finalWord(3) with LEND 1", x.finalWord(3), 0);
        x.set(LEND, 2);
        CHECK.due("finalWord(3) with LEND 2", x.finalWord(3), 5);
        x.run(200);
        CHECK.due("word(3)", x.word(3), 5);
    }

    private static void finalWordBehindALoadThatIsOnItsWay() {
        DOC.says(FINAL_WORD, "Tells which value a word would have when all threads are halted.");
        for (int thread = 0; thread < 4; thread++) {
            BarrelProcessor x = Check.with("l31;w32;h");
            x.setWord(31, 90);
            x.start(thread, 0);
            x.setRegister(thread, 1, -1);
            x.setRegister(thread, 2, 10);
            x.run(thread + 1);
            CHECK.due("state", x.state(thread), BarrelProcessor.LOADING);
            CHECK.due("finalWord(10)", x.finalWord(10), 90);
            x.setRegister(thread, 1, 0);
            x.setWord(31, 91);
            CHECK.due("finalWord(10) of the word as it is now", x.finalWord(10), 91);
        }
    }

    private static void forecastsChangeNothing() {
        BarrelProcessor x = Busy.make();
        int left = x.cyclesLeft();
        int soon = x.cyclesIf(0, 1);
        int best = x.bestLend();
        int word = x.finalWord(2);
        Busy.leaves(CHECK, "nextThread", y -> y.nextThread(), 0);
        Busy.leaves(CHECK, "cyclesLeft", y -> y.cyclesLeft(), left);
        Busy.leaves(CHECK, "cyclesIf", y -> y.cyclesIf(0, 1), soon);
        Busy.leaves(CHECK, "bestLend", y -> y.bestLend(), best);
        Busy.leaves(CHECK, "finalWord", y -> y.finalWord(2), word);
    }
}
