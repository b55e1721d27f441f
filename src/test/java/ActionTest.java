/** Promises 1 and 3 to 9 (actions but run), 15 to 18 and 21 to 23 (threads and memories), 14. */
public final class ActionTest {
    private static final int NONE = BarrelProcessor.NONE;
    private static final int NO_SUCH = BarrelProcessor.NO_SUCH;
    private static final int BAD_VALUE = BarrelProcessor.BAD_VALUE;
    private static final int[] OUT_OF_THREADS = {-1, 4, Integer.MIN_VALUE, Integer.MAX_VALUE};
    private static final int[] OUT_OF_PLACES = {-1, 48, Integer.MIN_VALUE, Integer.MAX_VALUE};
    private static final Check CHECK = new Check("ActionTest");

    public static void main(String[] args) {
        newObject();
        startThreads();
        startAgain();
        haltThreads();
        haltedLoadIsLost();
        registers();
        words();
        slots();
        settings();
        breakpoints();
        wrongNumbers();
        errorsAreNotRecorded();
        eachActionIsRecorded();
        historyHoldsFour();
        undoRestoresAll();
        undoKeepsTheText();
        undoneRunGoesTheSameWay();
        undoRestoresALoad();
        undoRestoresCounters();
        CHECK.finish();
    }

    private static void newObject() {
        BarrelProcessor x = new BarrelProcessor();
        for (int t = 0; t < 4; t++) {
            CHECK.due("state", x.state(t), BarrelProcessor.HALTED);
            CHECK.due("programCounter", x.programCounter(t), 0);
            CHECK.due("executed", x.executed(t), 0);
            CHECK.due("lent", x.lent(t), 0);
            CHECK.due("starved", x.starved(t), 0);
            for (int r = 0; r < 4; r++) {
                CHECK.due("register", x.register(t, r), 0);
            }
        }
        for (int w = 0; w < 32; w++) {
            CHECK.due("word", x.word(w), 0);
        }
        for (int p = 0; p < 48; p++) {
            CHECK.due("operation", x.operation(p), 11);
            CHECK.due("breakpoint", x.breakpoint(p), 0);
        }
        for (int s = 0; s < 8; s++) {
            CHECK.due("slot", x.slot(s), s % 4);
        }
        CHECK.due("setting(LATENCY)", x.setting(BarrelProcessor.LATENCY), 3);
        CHECK.due("setting(LEND)", x.setting(BarrelProcessor.LEND), 0);
        CHECK.due("cycle", x.cycle(), 0);
        CHECK.due("idle", x.idle(), 0);
        CHECK.due("trace(0, 0)", x.trace(0, 0), NONE);
        CHECK.dueFloat("use", x.use(), 0.0f);
        CHECK.due("nextThread", x.nextThread(), NONE);
        CHECK.due("cyclesLeft", x.cyclesLeft(), 0);
        CHECK.due("fault", x.fault(), 0);
        CHECK.due("clearText", x.clearText(), 0);
        CHECK.due("undo", x.undo(), NONE);
    }

    private static void startThreads() {
        BarrelProcessor x = new BarrelProcessor();
        for (int wrong : OUT_OF_THREADS) {
            CHECK.due("start", x.start(wrong, 0), NO_SUCH);
        }
        for (int wrong : OUT_OF_PLACES) {
            CHECK.due("start", x.start(0, wrong), NO_SUCH);
        }
        CHECK.due("state(0)", x.state(0), BarrelProcessor.HALTED);
        CHECK.due("start(0, 0)", x.start(0, 0), BarrelProcessor.HALTED);
        CHECK.due("start(3, 47)", x.start(3, 47), BarrelProcessor.HALTED);
        CHECK.due("state(0)", x.state(0), BarrelProcessor.READY);
        CHECK.due("state(1)", x.state(1), BarrelProcessor.HALTED);
        CHECK.due("state(3)", x.state(3), BarrelProcessor.READY);
        CHECK.due("programCounter(3)", x.programCounter(3), 47);
        x.setRegister(3, 2, 77);
        CHECK.due("start(3, 5)", x.start(3, 5), BarrelProcessor.READY);
        CHECK.due("register(3, 2)", x.register(3, 2), 0);
        CHECK.due("programCounter(3)", x.programCounter(3), 5);
    }

    private static void startAgain() {
        BarrelProcessor x = Check.with("b;l01;h");
        x.set(BarrelProcessor.LEND, 1);
        x.start(0, 0);
        x.start(1, 1);
        x.run(2);
        CHECK.due("state(0)", x.state(0), BarrelProcessor.AT_BARRIER);
        CHECK.due("state(1)", x.state(1), BarrelProcessor.LOADING);
        CHECK.due("start at the barrier", x.start(0, 2), BarrelProcessor.AT_BARRIER);
        CHECK.due("start of a loading one", x.start(1, 2), BarrelProcessor.LOADING);
        CHECK.due("executed stays", x.executed(0), 1);
        x.setWord(0, 9);
        CHECK.due("run(9)", x.run(9), 2);
        CHECK.due("the load is forgotten", x.register(1, 0), 0);
        CHECK.due("executed(0)", x.executed(0), 2);
        CHECK.due("executed(1)", x.executed(1), 2);
    }

    private static void haltThreads() {
        BarrelProcessor x = Check.with("b;l01;h");
        for (int wrong : OUT_OF_THREADS) {
            CHECK.due("halt", x.halt(wrong), NO_SUCH);
        }
        CHECK.due("halt of a halted one", x.halt(0), BarrelProcessor.HALTED);
        x.start(0, 1);
        x.setRegister(0, 3, 7);
        CHECK.due("halt of a ready one", x.halt(0), BarrelProcessor.READY);
        CHECK.due("state(0)", x.state(0), BarrelProcessor.HALTED);
        CHECK.due("programCounter stays", x.programCounter(0), 1);
        CHECK.due("register stays", x.register(0, 3), 7);
        x.start(1, 0);
        x.start(2, 1);
        x.run(3);
        CHECK.due("halt at the barrier", x.halt(1), BarrelProcessor.AT_BARRIER);
        CHECK.due("halt of a loading one", x.halt(2), BarrelProcessor.LOADING);
        CHECK.due("run(5)", x.run(5), 0);
    }

    private static void haltedLoadIsLost() {
        BarrelProcessor x = Check.with("l01;h;j2");
        x.setWord(0, 9);
        x.start(0, 0);
        x.start(1, 2);
        x.run(1);
        CHECK.due("halt(0)", x.halt(0), BarrelProcessor.LOADING);
        x.run(20);
        CHECK.due("state(0)", x.state(0), BarrelProcessor.HALTED);
        CHECK.due("register(0, 0)", x.register(0, 0), 0);
    }

    private static void registers() {
        BarrelProcessor x = new BarrelProcessor();
        for (int t = 0; t < 4; t++) {
            for (int r = 0; r < 4; r++) {
                CHECK.due("setRegister", x.setRegister(t, r, 10 * t + r + 1), 0);
            }
        }
        for (int t = 0; t < 4; t++) {
            for (int r = 0; r < 4; r++) {
                CHECK.due("register", x.register(t, r), 10 * t + r + 1);
            }
        }
        CHECK.due("setRegister to the highest", x.setRegister(1, 2, 32767), 13);
        CHECK.due("setRegister to the lowest", x.setRegister(1, 2, -32768), 32767);
        CHECK.due("setRegister above", x.setRegister(1, 2, 32768), BAD_VALUE);
        CHECK.due("setRegister below", x.setRegister(1, 2, -32769), BAD_VALUE);
        CHECK.due("register stays", x.register(1, 2), -32768);
        for (int wrong : OUT_OF_THREADS) {
            CHECK.due("setRegister", x.setRegister(wrong, 0, 99999), NO_SUCH);
            CHECK.due("setRegister", x.setRegister(0, wrong, 99999), NO_SUCH);
            CHECK.due("register", x.register(wrong, 0), NO_SUCH);
            CHECK.due("register", x.register(0, wrong), NO_SUCH);
        }
    }

    private static void words() {
        BarrelProcessor x = new BarrelProcessor();
        for (int w = 0; w < 32; w++) {
            CHECK.due("setWord", x.setWord(w, 100 - w), 0);
        }
        for (int w = 0; w < 32; w++) {
            CHECK.due("word", x.word(w), 100 - w);
        }
        CHECK.due("setWord to the lowest", x.setWord(31, -32768), 69);
        CHECK.due("setWord to the highest", x.setWord(31, 32767), -32768);
        CHECK.due("setWord above", x.setWord(31, 32768), BAD_VALUE);
        CHECK.due("setWord below", x.setWord(31, -32769), BAD_VALUE);
        CHECK.due("word(31)", x.word(31), 32767);
        int[] wrongs = {-1, 32, Integer.MIN_VALUE, Integer.MAX_VALUE};
        for (int wrong : wrongs) {
            CHECK.due("setWord", x.setWord(wrong, 99999), NO_SUCH);
            CHECK.due("word", x.word(wrong), NO_SUCH);
        }
    }

    private static void slots() {
        BarrelProcessor x = new BarrelProcessor();
        CHECK.due("setSlot(0, 3)", x.setSlot(0, 3), 0);
        CHECK.due("setSlot(0, 1)", x.setSlot(0, 1), 3);
        CHECK.due("setSlot(7, 0)", x.setSlot(7, 0), 3);
        CHECK.due("slot(0)", x.slot(0), 1);
        CHECK.due("slot(1)", x.slot(1), 1);
        CHECK.due("slot(7)", x.slot(7), 0);
        int[] wrongs = {-1, 8, Integer.MIN_VALUE, Integer.MAX_VALUE};
        for (int wrong : wrongs) {
            CHECK.due("setSlot", x.setSlot(wrong, 0), NO_SUCH);
            CHECK.due("slot", x.slot(wrong), NO_SUCH);
        }
        for (int wrong : OUT_OF_THREADS) {
            CHECK.due("setSlot", x.setSlot(2, wrong), NO_SUCH);
        }
        CHECK.due("slot(2)", x.slot(2), 2);
    }

    private static void settings() {
        BarrelProcessor x = new BarrelProcessor();
        CHECK.due("set(0, 20)", x.set(0, 20), 3);
        CHECK.due("set(0, 0)", x.set(0, 0), 20);
        CHECK.due("set(0, 21)", x.set(0, 21), BAD_VALUE);
        CHECK.due("set(0, -1)", x.set(0, -1), BAD_VALUE);
        CHECK.due("set(1, 2)", x.set(1, 2), 0);
        CHECK.due("set(1, 3)", x.set(1, 3), BAD_VALUE);
        CHECK.due("set(1, -1)", x.set(1, -1), BAD_VALUE);
        CHECK.due("setting(0)", x.setting(0), 0);
        CHECK.due("setting(1)", x.setting(1), 2);
        CHECK.due("set(1, 1)", x.set(1, 1), 2);
        int[] wrongs = {-1, 2, Integer.MIN_VALUE, Integer.MAX_VALUE};
        for (int wrong : wrongs) {
            CHECK.due("set", x.set(wrong, 99), NO_SUCH);
            CHECK.due("setting", x.setting(wrong), NO_SUCH);
        }
    }

    private static void breakpoints() {
        BarrelProcessor x = new BarrelProcessor();
        CHECK.due("setBreakpoint(0, true)", x.setBreakpoint(0, true), 1);
        CHECK.due("setBreakpoint(0, true) again", x.setBreakpoint(0, true), 1);
        CHECK.due("setBreakpoint(47, true)", x.setBreakpoint(47, true), 2);
        CHECK.due("setBreakpoint(5, false)", x.setBreakpoint(5, false), 2);
        CHECK.due("breakpoint(0)", x.breakpoint(0), 1);
        CHECK.due("breakpoint(1)", x.breakpoint(1), 0);
        CHECK.due("breakpoint(47)", x.breakpoint(47), 1);
        CHECK.due("setBreakpoint(0, false)", x.setBreakpoint(0, false), 1);
        CHECK.due("breakpoint(0)", x.breakpoint(0), 0);
        for (int wrong : OUT_OF_PLACES) {
            CHECK.due("setBreakpoint", x.setBreakpoint(wrong, true), NO_SUCH);
            CHECK.due("breakpoint", x.breakpoint(wrong), NO_SUCH);
        }
    }

    private static void wrongNumbers() {
        BarrelProcessor x = new BarrelProcessor();
        for (int wrong : OUT_OF_THREADS) {
            CHECK.due("state", x.state(wrong), NO_SUCH);
            CHECK.due("programCounter", x.programCounter(wrong), NO_SUCH);
            CHECK.due("executed", x.executed(wrong), NO_SUCH);
            CHECK.due("lent", x.lent(wrong), NO_SUCH);
            CHECK.due("starved", x.starved(wrong), NO_SUCH);
        }
    }

    private static void errorsAreNotRecorded() {
        BarrelProcessor x = new BarrelProcessor();
        x.assemble(0);
        x.start(0, 48);
        x.halt(4);
        x.setRegister(0, 0, 32768);
        x.setWord(0, 32768);
        x.setSlot(0, 4);
        x.set(0, 21);
        x.setBreakpoint(48, true);
        x.run(0);
        CHECK.due("undo", x.undo(), NONE);
        CHECK.dueText("the state", Check.stateOf(x), Check.stateOf(new BarrelProcessor()));
    }

    private static void recorded(String action, BarrelProcessor x) {
        CHECK.due("undo after " + action, x.undo(), 0);
        CHECK.due("one more undo after " + action, x.undo(), NONE);
    }

    private static void eachActionIsRecorded() {
        BarrelProcessor x = new BarrelProcessor();
        Check.type(x, "h");
        x.assemble(0);
        recorded("assemble", x);
        x.start(0, 0);
        recorded("start", x);
        x.halt(0);
        recorded("halt", x);
        x.setRegister(0, 0, 0);
        recorded("setRegister", x);
        x.setWord(0, 0);
        recorded("setWord", x);
        x.setSlot(0, 0);
        recorded("setSlot", x);
        x.set(0, 3);
        recorded("set", x);
        x.setBreakpoint(0, false);
        recorded("setBreakpoint", x);
        CHECK.due("run", x.run(1), 0);
        recorded("run", x);
    }

    private static void historyHoldsFour() {
        BarrelProcessor x = new BarrelProcessor();
        for (int value = 1; value <= 6; value++) {
            x.setWord(0, value);
        }
        for (int left = 3; left >= 0; left--) {
            CHECK.due("undo", x.undo(), left);
            CHECK.due("word(0)", x.word(0), left + 2);
        }
        CHECK.due("undo", x.undo(), NONE);
        CHECK.due("word(0)", x.word(0), 2);
        CHECK.due("setWord(0, 9)", x.setWord(0, 9), 2);
        CHECK.due("setWord(0, 8)", x.setWord(0, 8), 9);
        CHECK.due("undo", x.undo(), 1);
        CHECK.due("setWord(0, 7)", x.setWord(0, 7), 9);
        CHECK.due("undo", x.undo(), 1);
        CHECK.due("undo", x.undo(), 0);
        CHECK.due("word(0)", x.word(0), 2);
    }

    /** All of them have the same state; a new one for each look keeps below 512 calls. */
    private static BarrelProcessor working() {
        BarrelProcessor x = Check.with("s0=5;l10;w01;b;j0");
        x.set(BarrelProcessor.LEND, 2);
        x.start(0, 0);
        x.start(2, 0);
        x.start(3, 1);
        x.run(30);
        Check.type(x, "h;h;h;h");
        return x;
    }

    private static void restored(String actions, BarrelProcessor x) {
        CHECK.dueText("the state after " + actions, Check.stateOf(x), Check.stateOf(working()));
    }

    private static void undoRestoresAll() {
        BarrelProcessor x = working();
        x.run(50);
        CHECK.due("undo of run", x.undo(), 3);
        restored("run", x);
        x = working();
        x.assemble(0);
        x.undo();
        restored("assemble", x);
        x = working();
        x.start(0, 3);
        x.undo();
        restored("start", x);
        x = working();
        x.halt(2);
        x.undo();
        restored("halt", x);
        x = working();
        x.setSlot(3, 0);
        x.setBreakpoint(7, true);
        x.set(BarrelProcessor.LATENCY, 20);
        x.undo();
        x.undo();
        x.undo();
        restored("three actions", x);
    }

    private static void undoKeepsTheText() {
        BarrelProcessor x = new BarrelProcessor();
        Check.type(x, "b;h");
        x.assemble(0);
        x.append(';');
        CHECK.due("undo", x.undo(), 0);
        CHECK.due("fault", x.fault(), 4);
        CHECK.due("clearText", x.clearText(), 4);
    }

    /** What cannot be asked directly (waiting loads, turns, starving) is restored as well. */
    private static void undoneRunGoesTheSameWay() {
        for (int cycles = 1; cycles < 20; cycles++) {
            BarrelProcessor x = startedInTurn();
            x.run(cycles);
            x.run(40);
            x.undo();
            x.run(40);
            BarrelProcessor straight = startedInTurn();
            straight.run(cycles);
            straight.run(40);
            CHECK.dueText("the same run after undo", Check.stateOf(x), Check.stateOf(straight));
        }
    }

    private static BarrelProcessor startedInTurn() {
        BarrelProcessor x = Check.with("s0=5;l10;a11;w01;j0");
        x.set(BarrelProcessor.LEND, 2);
        x.set(BarrelProcessor.LATENCY, 5);
        for (int t = 0; t < 4; t++) {
            x.start(t, t);
        }
        return x;
    }

    private static void undoRestoresALoad() {
        BarrelProcessor x = Check.with("l31;h;l02;h");
        x.set(BarrelProcessor.LATENCY, 2);
        x.setWord(9, 90);
        x.start(0, 0);
        x.setRegister(0, 1, 9);
        x.run(1);
        x.start(0, 2);
        x.set(BarrelProcessor.LATENCY, 9);
        x.run(7);
        x.undo();
        x.undo();
        CHECK.due("undo", x.undo(), 1);
        CHECK.due("run(20)", x.run(20), 4);
        CHECK.due("register(0, 3)", x.register(0, 3), 90);
        CHECK.due("register(0, 0)", x.register(0, 0), 0);
    }

    private static void undoRestoresCounters() {
        BarrelProcessor x = Check.with("j0");
        for (int slot = 2; slot < 8; slot++) {
            x.setSlot(slot, 1);
        }
        x.start(0, 0);
        x.run(3);
        x.run(5);
        CHECK.due("starved(0)", x.starved(0), 7);
        x.undo();
        CHECK.due("starved(0) after undo", x.starved(0), 2);
        x.run(1);
        CHECK.due("the sequence goes on: starved(0)", x.starved(0), 3);
        CHECK.due("idle", x.idle(), 3);
        x.undo();
        CHECK.due("undo", x.undo(), 2);
        CHECK.due("trace(0, 0) after undo", x.trace(0, 0), NONE);
        CHECK.due("executed(0) after undo", x.executed(0), 0);
        CHECK.due("cycle after undo", x.cycle(), 0);
    }
}
