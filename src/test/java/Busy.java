/** Processors in the midst of their work, to see that a call leaves all as it was. */
final class Busy {
    /** A call of one method. */
    interface Call {
        long on(BarrelProcessor x);
    }

    /** A call of one method with one argument that changes from call to call. */
    interface CallWith {
        long on(BarrelProcessor x, int argument);
    }

    private static final String PROGRAM = "s0=2;l10;b;w10;j0;h";
    private static final String TEXT = "s1=5;z1>";
    /** The state as it is, after one to four undos, and after a run. */
    private static final int WAYS_TO_LOOK = 6;
    private static final int WAY_OF_A_RUN = 5;

    private Busy() {
    }

    static BarrelProcessor make() {
        return make(TEXT);
    }

    /** One thread in each state, two breakpoints, three states in the history, and this text. */
    static BarrelProcessor make(String text) {
        BarrelProcessor x = Check.with(PROGRAM);
        x.setBreakpoint(5, true);
        x.set(BarrelProcessor.LATENCY, 7);
        x.set(BarrelProcessor.LEND, 2);
        x.start(0, 4);
        x.start(1, 1);
        x.start(2, 2);
        x.start(3, 5);
        x.run(1);
        x.run(3);
        x.run(1);
        x.setBreakpoint(3, true);
        x.setSlot(6, 1);
        x.setWord(0, -9);
        x.setRegister(1, 3, 77);
        x.undo();
        Check.type(x, text);
        return x;
    }

    /** The call answers this, and the state, the text and the history are as they were. */
    static void leaves(Check check, String name, Call call, long want) {
        leaves(check, name, TEXT, call, want);
    }

    static void leaves(Check check, String name, String text, Call call, long want) {
        // A new pair for each way, for all looks at one object would take it beyond 512 calls.
        for (int way = 0; way < WAYS_TO_LOOK; way++) {
            BarrelProcessor x = make(text);
            check.due(name, call.on(x), want);
            check.dueText("all that can be asked after " + name, lookAt(x, way),
                    lookAt(make(text), way));
        }
    }

    /** The call answers the code for each number just outside and far outside of the range. */
    static void refusesOutside(Check check, String name, int low, int high, CallWith call,
            int code) {
        for (int argument : outside(low, high)) {
            leaves(check, name + " with " + argument, x -> call.on(x, argument), code);
        }
    }

    /** Those that a cast or a mask would bring back into the range are among them. */
    static int[] outside(int low, int high) {
        return new int[] {low - 1, high + 1, low - 65536, high + 65536, low - 256, high + 65792,
            Integer.MIN_VALUE, Integer.MIN_VALUE + 1, Integer.MAX_VALUE};
    }

    private static String lookAt(BarrelProcessor x, int way) {
        StringBuilder all = new StringBuilder();
        if (way == WAY_OF_A_RUN) {
            all.append("run ").append(x.run(40));
        } else {
            for (int undone = 0; undone < way; undone++) {
                all.append("undo ").append(x.undo()).append(' ');
            }
        }
        all.append(Check.stateOf(x)).append("\nfault ").append(x.fault());
        all.append(" next ").append(x.nextThread()).append(" left ").append(x.cyclesLeft());
        all.append(" if ").append(x.cyclesIf(0, 0)).append(' ').append(x.cyclesIf(20, 1));
        all.append(" best ").append(x.bestLend()).append(" word ").append(x.finalWord(2));
        all.append(" use ").append(x.use()).append(" length ").append(x.clearText());
        return all.toString();
    }
}
