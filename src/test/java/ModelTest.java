/** Compares the program with the model in long sequences of calls, each on a new object. */
public final class ModelTest {
    private static final int SEQUENCES = 1500;
    private static final int MOST_CALLS = 512;
    /** More than the calls that type a text of the shorter kind. */
    private static final int CALLS_OF_A_TEXT = 40;
    private static final int[] ODD = {-1, 4, 8, 32, 48, 201, 32768, -32769, Integer.MIN_VALUE,
        Integer.MAX_VALUE};
    private static final Check CHECK = new Check("ModelTest");

    private long seed;
    private int calls;
    private BarrelProcessor x;
    private Model m;

    public static void main(String[] args) {
        ModelTest test = new ModelTest();
        for (int sequence = 0; sequence < SEQUENCES; sequence++) {
            test.runSequence(sequence);
        }
        CHECK.finish();
    }

    private void runSequence(int number) {
        seed = number * 7919L + 17;
        x = new BarrelProcessor();
        m = new Model();
        calls = 0;
        // Some sequences are mostly about programs that run, some about all calls alike.
        if (number % 4 != 0) {
            prepare();
        }
        while (calls < MOST_CALLS) {
            callOne(number, below(100));
        }
    }

    /** The same numbers in each run of the test: a source of randomness would not repeat. */
    private int below(int bound) {
        seed = seed * 6364136223846793005L + 1442695040888963407L;
        return (int) ((seed >>> 33) % bound);
    }

    private int upTo(int highest) {
        return below(30) == 0 ? ODD[below(ODD.length)] : below(highest + 1);
    }

    private int value() {
        int[] some = {0, 1, -1, 2, 32767, -32768, 32768, -32769, 300, below(65536) - 32768};
        return some[below(some.length)];
    }

    private void same(int number, String call, long got, long want) {
        calls++;
        CHECK.due("sequence " + number + " call " + calls + " " + call, got, want);
    }

    private void prepare() {
        for (int times = 1 + below(2); times > 0; times--) {
            type(50 + below(50));
            int place = below(20);
            same(-1, "assemble", x.assemble(place), m.assemble(place));
        }
        same(-1, "set lend", x.set(1, calls % 3), m.set(1, calls % 3));
        int latency = below(21);
        same(-1, "set latency", x.set(0, latency), m.set(0, latency));
        for (int thread = 0; thread < 4; thread++) {
            int place = below(30);
            same(-1, "start", x.start(thread, place), m.start(thread, place));
        }
    }

    private String instruction() {
        String letters = "aadmlllwwxxjzznbbsss";
        char letter = letters.charAt(below(letters.length()));
        int r = below(4);
        switch (letter) {
            case 's': return "s" + r + "=" + (below(5) == 0 ? below(199) - 99 : below(5) - 2);
            case 'j': return "j" + below(48);
            case 'z':
            case 'n': return "" + letter + r + ">" + below(48);
            case 'b': return below(4) == 0 ? "h" : "b";
            default: return "" + letter + r + below(4);
        }
    }

    private void type(int length) {
        same(-1, "clearText", x.clearText(), m.clearText());
        StringBuilder text = new StringBuilder(instruction());
        while (text.length() < length - 6) {
            text.append(';').append(instruction());
        }
        if (below(4) == 0) {
            String signs = "sadmlwxjznbh0123456789-=>; ~4";
            text.setCharAt(below(text.length()), signs.charAt(below(signs.length())));
        }
        for (int i = 0; i < text.length(); i++) {
            same(-1, "append", x.append(text.charAt(i)), m.append(text.charAt(i)));
        }
        same(-1, "fault", x.fault(), m.fault());
    }

    private void callOne(int number, int kind) {
        if (kind < 40) {
            act(number, kind);
        } else if (kind < 70) {
            askForState(number, kind - 40);
        } else {
            askForMore(number, kind - 70);
        }
    }

    private void act(int number, int kind) {
        int a = upTo(47);
        int t = upTo(3);
        int v = value();
        int r = upTo(3);
        if (kind < 14) {
            int cycles = below(3) == 0 ? upTo(200) : 1 + below(9);
            same(number, "run " + cycles, x.run(cycles), m.run(cycles));
        } else if (kind < 18) {
            same(number, "start", x.start(t, a), m.start(t, a));
        } else if (kind < 20) {
            same(number, "halt", x.halt(t), m.halt(t));
        } else if (kind < 22) {
            same(number, "setRegister", x.setRegister(t, r, v), m.setRegister(t, r, v));
        } else if (kind < 24) {
            int w = upTo(31);
            same(number, "setWord", x.setWord(w, v), m.setWord(w, v));
        } else if (kind < 26) {
            int s = upTo(7);
            same(number, "setSlot", x.setSlot(s, t), m.setSlot(s, t));
        } else if (kind < 28) {
            int s = upTo(1);
            int to = s == 1 ? upTo(2) : upTo(21);
            same(number, "set", x.set(s, to), m.set(s, to));
        } else if (kind < 30) {
            boolean isSet = below(3) == 0;
            same(number, "setBreakpoint", x.setBreakpoint(a, isSet), m.setBreakpoint(a, isSet));
        } else if (kind < 33) {
            same(number, "undo", x.undo(), m.undo());
        } else if (kind < 35) {
            same(number, "assemble", x.assemble(a), m.assemble(a));
        } else if (kind < 39) {
            int c = below(9) == 0 ? upTo(200) : instruction().charAt(0);
            c = below(2) == 0 ? ';' : c;
            same(number, "append", x.append(c), m.append(c));
        } else if (below(2) == 0 && calls < MOST_CALLS - CALLS_OF_A_TEXT) {
            type(10 + below(20));
        }
    }

    private void askForState(int number, int kind) {
        int a = upTo(47);
        int t = upTo(3);
        int r = upTo(3);
        if (kind < 6) {
            same(number, "state", x.state(t), m.state(t));
        } else if (kind < 11) {
            same(number, "programCounter", x.programCounter(t), m.programCounter(t));
        } else if (kind < 16) {
            same(number, "register", x.register(t, r), m.register(t, r));
        } else if (kind < 20) {
            int w = upTo(31);
            same(number, "word", x.word(w), m.word(w));
        } else if (kind < 22) {
            same(number, "operation", x.operation(a), m.operation(a));
        } else if (kind < 24) {
            int o = upTo(1);
            same(number, "operand", x.operand(a, o), m.operand(a, o));
        } else if (kind < 26) {
            int s = upTo(7);
            same(number, "slot", x.slot(s), m.slot(s));
        } else if (kind < 28) {
            int s = upTo(1);
            same(number, "setting", x.setting(s), m.setting(s));
        } else {
            same(number, "breakpoint", x.breakpoint(a), m.breakpoint(a));
        }
    }

    private void askForMore(int number, int kind) {
        int t = upTo(3);
        if (kind < 2) {
            same(number, "cycle", x.cycle(), m.cycle());
        } else if (kind < 4) {
            same(number, "idle", x.idle(), m.idle());
        } else if (kind < 6) {
            same(number, "executed", x.executed(t), m.executed(t));
        } else if (kind < 9) {
            same(number, "lent", x.lent(t), m.lent(t));
        } else if (kind < 13) {
            same(number, "starved", x.starved(t), m.starved(t));
        } else if (kind < 17) {
            int ago = upTo(17);
            int part = upTo(2);
            same(number, "trace", x.trace(ago, part), m.trace(ago, part));
        } else if (kind < 18) {
            calls++;
            CHECK.dueFloat("sequence " + number + " use", x.use(), m.use());
        } else if (kind < 22) {
            same(number, "nextThread", x.nextThread(), m.nextThread());
        } else if (kind < 24) {
            same(number, "cyclesLeft", x.cyclesLeft(), m.cyclesLeft());
        } else if (kind < 26) {
            int latency = upTo(20);
            int lend = upTo(2);
            same(number, "cyclesIf", x.cyclesIf(latency, lend), m.cyclesIf(latency, lend));
        } else if (kind < 27) {
            same(number, "bestLend", x.bestLend(), m.bestLend());
        } else if (kind < 29) {
            int w = upTo(31);
            same(number, "finalWord", x.finalWord(w), m.finalWord(w));
        } else {
            same(number, "fault", x.fault(), m.fault());
        }
    }
}
