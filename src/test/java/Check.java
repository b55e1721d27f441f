/** Counts the answers that are not as due, and makes processors for the tests. */
final class Check {
    private final String name;
    private int made;
    private int wrong;

    Check(String name) {
        this.name = name;
    }

    void due(String call, long got, long want) {
        made++;
        if (got != want) {
            wrong++;
            System.out.println(name + ": " + call + " answered " + got + ", due is " + want);
        }
    }

    void dueFloat(String call, float got, float want) {
        made++;
        if (Float.compare(got, want) != 0) {
            wrong++;
            System.out.println(name + ": " + call + " answered " + got + ", due is " + want);
        }
    }

    void dueText(String what, String got, String want) {
        made++;
        if (!got.equals(want)) {
            wrong++;
            System.out.println(name + ": " + what + " is " + got + ", due is " + want);
        }
    }

    /** Prints the result and ends the program with exit code 1 if an answer was wrong. */
    void finish() {
        System.out.println(name + ": " + made + " answers, " + wrong + " not as due");
        if (wrong != 0 || made == 0) {
            System.exit(1);
        }
    }

    static void type(BarrelProcessor x, String text) {
        x.clearText();
        for (int i = 0; i < text.length(); i++) {
            x.append(text.charAt(i));
        }
    }

    /** A new processor with these instructions from the place 0 on. */
    static BarrelProcessor with(String program) {
        BarrelProcessor x = new BarrelProcessor();
        type(x, program);
        x.assemble(0);
        return x;
    }

    /** All that can be asked about the state, as one text. */
    static String stateOf(BarrelProcessor x) {
        StringBuilder all = new StringBuilder();
        for (int t = 0; t < 4; t++) {
            all.append("thread ").append(t).append(": ").append(x.state(t)).append(' ')
                    .append(x.programCounter(t)).append(" registers");
            for (int r = 0; r < 4; r++) {
                all.append(' ').append(x.register(t, r));
            }
            all.append(" counters ").append(x.executed(t)).append(' ').append(x.lent(t))
                    .append(' ').append(x.starved(t)).append('\n');
        }
        for (int w = 0; w < 32; w++) {
            all.append(x.word(w)).append(' ');
        }
        for (int p = 0; p < 48; p++) {
            all.append('\n').append(x.operation(p)).append(' ').append(x.operand(p, 0))
                    .append(' ').append(x.operand(p, 1)).append(' ').append(x.breakpoint(p));
        }
        for (int s = 0; s < 8; s++) {
            all.append(' ').append(x.slot(s));
        }
        all.append('\n').append(x.setting(0)).append(' ').append(x.setting(1)).append(' ')
                .append(x.cycle()).append(' ').append(x.idle()).append('\n');
        for (int ago = 0; ago < 17; ago++) {
            all.append(x.trace(ago, 0)).append(' ').append(x.trace(ago, 1)).append(' ')
                    .append(x.trace(ago, 2)).append(';');
        }
        return all.toString();
    }
}
