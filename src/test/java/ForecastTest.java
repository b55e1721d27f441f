/** What would be: promises 32 (cyclesLeft), 33 (cyclesIf), 34 (bestLend), 35 (finalWord). */
public final class ForecastTest {
    private static final int NONE = BarrelProcessor.NONE;
    private static final int BAD_VALUE = BarrelProcessor.BAD_VALUE;
    private static final int NO_SUCH = BarrelProcessor.NO_SUCH;
    private static final int LATENCY = BarrelProcessor.LATENCY;
    private static final int LEND = BarrelProcessor.LEND;
    private static final Check CHECK = new Check("ForecastTest");

    public static void main(String[] args) {
        nobodyRuns();
        wrongArguments();
        atMostFiveHundred();
        bestOfTheLends();
        onlyOneLendIsInTime();
        latencies();
        aLoadKeepsItsLatency();
        breakpointsDoNotMatter();
        barriersOpen();
        finalWords();
        forecastsChangeNothing();
        forecastsComeTrue();
        CHECK.finish();
    }

    private static void nobodyRuns() {
        BarrelProcessor x = new BarrelProcessor();
        x.setWord(3, 8);
        CHECK.due("cyclesLeft", x.cyclesLeft(), 0);
        CHECK.due("cyclesIf(20, 2)", x.cyclesIf(20, 2), 0);
        CHECK.due("bestLend", x.bestLend(), 0);
        CHECK.due("finalWord(3)", x.finalWord(3), 8);
    }

    private static void wrongArguments() {
        BarrelProcessor x = Check.with("j0");
        x.start(0, 0);
        CHECK.due("cyclesIf(-1, 0)", x.cyclesIf(-1, 0), BAD_VALUE);
        CHECK.due("cyclesIf(21, 0)", x.cyclesIf(21, 0), BAD_VALUE);
        CHECK.due("cyclesIf(0, -1)", x.cyclesIf(0, -1), BAD_VALUE);
        CHECK.due("cyclesIf(0, 3)", x.cyclesIf(0, 3), BAD_VALUE);
        CHECK.due("cyclesIf(0, 0)", x.cyclesIf(0, 0), NONE);
        CHECK.due("cyclesIf(20, 2)", x.cyclesIf(20, 2), NONE);
        CHECK.due("finalWord(-1)", x.finalWord(-1), NO_SUCH);
        CHECK.due("finalWord(32)", x.finalWord(32), NO_SUCH);
        CHECK.due("finalWord of the least int", x.finalWord(Integer.MIN_VALUE), NO_SUCH);
        CHECK.due("finalWord of the greatest int", x.finalWord(Integer.MAX_VALUE), NO_SUCH);
        CHECK.due("finalWord(0)", x.finalWord(0), NONE);
        CHECK.due("cyclesLeft", x.cyclesLeft(), NONE);
        CHECK.due("bestLend", x.bestLend(), NONE);
    }

    /** From the place 1 on it is 2 + 3 * 166 = 500 instructions, from the place 0 on 501. */
    private static BarrelProcessor fiveHundred(int place) {
        BarrelProcessor x = Check.with("s1=1;s1=1;s1=1;d01;z0>6;j3;h");
        x.set(LEND, 1);
        x.start(0, place);
        x.setRegister(0, 0, 166);
        x.setWord(9, 4);
        return x;
    }

    private static void atMostFiveHundred() {
        BarrelProcessor x = fiveHundred(1);
        CHECK.due("cyclesLeft of 500", x.cyclesLeft(), 500);
        CHECK.due("cyclesIf(0, 2) of 500", x.cyclesIf(0, 2), 500);
        CHECK.due("bestLend of 500", x.bestLend(), 1);
        CHECK.due("finalWord of 500", x.finalWord(9), 4);
        x.run(1);
        CHECK.due("cyclesLeft of 499", x.cyclesLeft(), 499);
        x = fiveHundred(0);
        CHECK.due("cyclesLeft of 501", x.cyclesLeft(), NONE);
        CHECK.due("cyclesIf(0, 2) of 501", x.cyclesIf(0, 2), NONE);
        CHECK.due("bestLend of 501", x.bestLend(), NONE);
        CHECK.due("finalWord of 501", x.finalWord(9), NONE);
        x.run(1);
        CHECK.due("cyclesLeft of 500", x.cyclesLeft(), 500);
        CHECK.due("run", x.run(200) + x.run(200) + x.run(200), 500);
    }

    private static void bestOfTheLends() {
        BarrelProcessor x = Check.with("a00;h");
        x.start(0, 0);
        x.start(1, 0);
        x.start(2, 0);
        x.start(3, 0);
        CHECK.due("cyclesIf(3, 0)", x.cyclesIf(3, 0), 8);
        CHECK.due("cyclesIf(3, 1)", x.cyclesIf(3, 1), 8);
        CHECK.due("cyclesIf(3, 2)", x.cyclesIf(3, 2), 8);
        CHECK.due("bestLend of three alike", x.bestLend(), 0);
        x.halt(0);
        CHECK.due("cyclesLeft", x.cyclesLeft(), 8);
        CHECK.due("cyclesIf(3, 1)", x.cyclesIf(3, 1), 6);
        CHECK.due("cyclesIf(3, 2)", x.cyclesIf(3, 2), 6);
        CHECK.due("bestLend of two alike", x.bestLend(), 1);
        x.set(LEND, 2);
        CHECK.due("cyclesLeft", x.cyclesLeft(), 6);
        CHECK.due("bestLend whatever is set", x.bestLend(), 1);
    }

    /** All slots are those of thread 0, which is halted: with LEND 0 nobody ever issues. */
    private static void onlyOneLendIsInTime() {
        BarrelProcessor x = Check.with("l01;z0>0;h;s0=1;w01;h");
        for (int slot = 0; slot < 8; slot++) {
            x.setSlot(slot, 0);
        }
        x.start(2, 3);
        CHECK.due("cyclesIf(0, 0)", x.cyclesIf(0, 0), NONE);
        CHECK.due("cyclesIf(0, 1)", x.cyclesIf(0, 1), 3);
        CHECK.due("bestLend without LEND 0", x.bestLend(), 1);
        // Thread 1 waits for a word that thread 2 sets; with LEND 1 it never lets thread 2 in.
        x.set(LATENCY, 0);
        x.start(1, 0);
        CHECK.due("cyclesIf(0, 0)", x.cyclesIf(0, 0), NONE);
        CHECK.due("cyclesIf(0, 1)", x.cyclesIf(0, 1), NONE);
        CHECK.due("bestLend with LEND 2 alone", x.bestLend(), 2);
        CHECK.due("finalWord(0) with LEND 0", x.finalWord(0), NONE);
        x.set(LEND, 2);
        CHECK.due("finalWord(0) with LEND 2", x.finalWord(0), 1);
    }

    private static void latencies() {
        BarrelProcessor x = Check.with("l00;h");
        x.set(LEND, 1);
        x.start(2, 0);
        for (int latency = 0; latency <= 20; latency++) {
            CHECK.due("cyclesIf(" + latency + ", 1)", x.cyclesIf(latency, 1), latency + 2);
        }
        CHECK.due("cyclesLeft", x.cyclesLeft(), 5);
        CHECK.due("cyclesIf(3, 0)", x.cyclesIf(3, 0), 7);
        CHECK.due("cyclesIf(4, 0)", x.cyclesIf(4, 0), 11);
        x.set(LATENCY, 20);
        CHECK.due("cyclesLeft", x.cyclesLeft(), 22);
    }

    private static void aLoadKeepsItsLatency() {
        BarrelProcessor x = Check.with("l01;h");
        x.set(LATENCY, 20);
        x.start(0, 0);
        x.run(1);
        CHECK.due("cyclesLeft", x.cyclesLeft(), 24);
        CHECK.due("cyclesIf(0, 0)", x.cyclesIf(0, 0), 24);
        CHECK.due("cyclesIf(0, 1)", x.cyclesIf(0, 1), 21);
        x.set(LATENCY, 0);
        CHECK.due("cyclesLeft", x.cyclesLeft(), 24);
    }

    private static void breakpointsDoNotMatter() {
        BarrelProcessor x = Check.with("a00;a00;a00;h");
        x.setBreakpoint(1, true);
        x.setBreakpoint(3, true);
        x.set(LEND, 1);
        x.start(0, 0);
        CHECK.due("cyclesLeft", x.cyclesLeft(), 4);
        CHECK.due("cyclesIf(3, 0)", x.cyclesIf(3, 0), 13);
        CHECK.due("bestLend", x.bestLend(), 1);
        CHECK.due("run(9)", x.run(9), 1);
    }

    private static void barriersOpen() {
        BarrelProcessor x = Check.with("b;b;h");
        x.set(LEND, 1);
        x.start(0, 0);
        x.start(3, 1);
        CHECK.due("cyclesLeft", x.cyclesLeft(), 5);
        CHECK.due("run(200)", x.run(200), 5);
    }

    private static void finalWords() {
        BarrelProcessor x = Check.with("s0=7;s1=5;w01;x21;h");
        x.setWord(5, 1);
        x.setWord(6, 2);
        x.start(1, 0);
        CHECK.due("finalWord(5)", x.finalWord(5), 0);
        CHECK.due("finalWord(6)", x.finalWord(6), 2);
        CHECK.due("word(5)", x.word(5), 1);
        x.run(10);
        CHECK.due("word(5)", x.word(5), 7);
        CHECK.due("finalWord(5)", x.finalWord(5), 0);
        x.halt(1);
        CHECK.due("finalWord(5) of a halted one", x.finalWord(5), 7);
    }

    private static BarrelProcessor working() {
        BarrelProcessor x = Check.with("s0=3;l10;w10;b;x01;a01;h");
        x.start(0, 0);
        x.start(1, 1);
        x.start(3, 2);
        x.run(7);
        return x;
    }

    private static void forecastsChangeNothing() {
        BarrelProcessor x = working();
        x.cyclesLeft();
        x.cyclesIf(20, 2);
        x.bestLend();
        x.finalWord(4);
        CHECK.dueText("the state", Check.stateOf(x), Check.stateOf(working()));
        CHECK.due("a question is no action: undo", x.undo(), 3);
    }

    private static void forecastsComeTrue() {
        for (int lend = 0; lend <= 2; lend++) {
            for (int latency = 0; latency <= 20; latency++) {
                BarrelProcessor x = Check.with("s0=3;l10;b;x01;a11;w10;z2>8;h;b;l30");
                for (int t = 0; t < 4; t++) {
                    x.start(t, t);
                }
                x.run(latency + 1);
                int cycles = x.cyclesIf(latency, lend);
                x.set(LATENCY, latency);
                x.set(LEND, lend);
                CHECK.due("cyclesLeft", x.cyclesLeft(), cycles);
                int word = x.finalWord(3);
                CHECK.due("run", x.run(200) + x.run(200) + x.run(100), cycles);
                CHECK.due("word(3)", x.word(3), word);
                CHECK.due("cyclesLeft at the end", x.cyclesLeft(), 0);
            }
        }
    }
}
