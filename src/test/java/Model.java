import java.util.ArrayList;
import java.util.HashMap;
import java.util.HashSet;
import java.util.List;
import java.util.Map;
import java.util.Set;

/**
 * A second reading of the document, written as differently as possible from the program: the
 * grammar as a list of all instructions, the waiting as a queue, the counters from a diary of all
 * cycles. ModelTest compares both.
 */
final class Model {
    private static final int NO_SUCH = -100001;
    private static final int BAD_VALUE = -100002;
    private static final int BAD_TEXT = -100003;
    private static final int TOO_MANY = -100004;
    private static final int NONE = -100005;
    private static final int NOBODY = -1;

    /** Each instruction as it is written, with its operation and its operands. */
    private static final Map<String, int[]> WRITTEN = allInstructions();
    private static final Set<String> BEGINNINGS = allBeginnings();

    private State now = new State();
    private final List<State> history = new ArrayList<>();
    private String text = "";

    private static final class State {
        String[] is = {"halted", "halted", "halted", "halted"};
        int[] counter = new int[4];
        int[][] registers = new int[4][4];
        int[][] load = new int[4][];
        List<Integer> queue = new ArrayList<>();
        int[][] program = new int[48][];
        Set<Integer> breakpoints = new HashSet<>();
        int[] words = new int[32];
        int[] slots = {0, 1, 2, 3, 0, 1, 2, 3};
        int[] settings = {3, 0};
        /** For each cycle: the issuing thread, the thread of the slot, the place. */
        List<int[]> diary = new ArrayList<>();
        /** For each thread: s for a starved cycle, a dot for whatever ends a sequence. */
        StringBuilder[] starving = new StringBuilder[4];

        State() {
            for (int place = 0; place < 48; place++) {
                program[place] = new int[] {11};
            }
            for (int t = 0; t < 4; t++) {
                starving[t] = new StringBuilder();
            }
        }

        State copy() {
            State c = new State();
            c.is = is.clone();
            c.counter = counter.clone();
            for (int t = 0; t < 4; t++) {
                c.registers[t] = registers[t].clone();
                c.load[t] = load[t] == null ? null : load[t].clone();
                c.starving[t] = new StringBuilder(starving[t]);
            }
            c.queue = new ArrayList<>(queue);
            c.program = program.clone();
            c.breakpoints = new HashSet<>(breakpoints);
            c.words = words.clone();
            c.slots = slots.clone();
            c.settings = settings.clone();
            c.diary = new ArrayList<>(diary);
            return c;
        }
    }

    private static Map<String, int[]> allInstructions() {
        Map<String, int[]> all = new HashMap<>();
        for (int r = 0; r < 4; r++) {
            for (int number = -99; number <= 99; number++) {
                all.put("s" + r + "=" + number, new int[] {0, r, number});
            }
            for (int q = 0; q < 4; q++) {
                String[] letters = {"a", "d", "m", "l", "w", "x"};
                for (int i = 0; i < 6; i++) {
                    all.put(letters[i] + r + q, new int[] {i + 1, r, q});
                }
            }
            for (int place = 0; place < 48; place++) {
                all.put("j" + place, new int[] {7, place});
                all.put("z" + r + ">" + place, new int[] {8, r, place});
                all.put("n" + r + ">" + place, new int[] {9, r, place});
            }
        }
        all.put("b", new int[] {10});
        all.put("h", new int[] {11});
        return all;
    }

    private static Set<String> allBeginnings() {
        Set<String> all = new HashSet<>();
        for (String written : WRITTEN.keySet()) {
            for (int length = 0; length <= written.length(); length++) {
                all.add(written.substring(0, length));
            }
        }
        return all;
    }

    private static boolean canBegin(String start) {
        String[] parts = start.split(";", -1);
        for (int i = 0; i < parts.length - 1; i++) {
            if (!WRITTEN.containsKey(parts[i])) {
                return false;
            }
        }
        return BEGINNINGS.contains(parts[parts.length - 1]);
    }

    int fault() {
        for (int length = 1; length <= text.length(); length++) {
            if (!canBegin(text.substring(0, length))) {
                return length - 1;
            }
        }
        String[] parts = text.split(";", -1);
        return WRITTEN.containsKey(parts[parts.length - 1]) ? NONE : text.length();
    }

    private static boolean outside(int value, int low, int high) {
        return value < low || value > high;
    }

    private void record() {
        history.add(now.copy());
        if (history.size() > 4) {
            history.remove(0);
        }
    }

    int assemble(int place) {
        if (outside(place, 0, 47)) {
            return NO_SUCH;
        }
        if (fault() != NONE) {
            return BAD_TEXT;
        }
        String[] parts = text.split(";");
        if (place + parts.length - 1 > 47) {
            return TOO_MANY;
        }
        record();
        for (int i = 0; i < parts.length; i++) {
            now.program[place + i] = WRITTEN.get(parts[i]);
        }
        return parts.length;
    }

    int start(int thread, int place) {
        if (outside(thread, 0, 3) || outside(place, 0, 47)) {
            return NO_SUCH;
        }
        record();
        int before = state(thread);
        now.registers[thread] = new int[4];
        now.counter[thread] = place;
        now.is[thread] = "ready";
        now.queue.remove(Integer.valueOf(thread));
        now.starving[thread].append('.');
        return before;
    }

    int halt(int thread) {
        if (outside(thread, 0, 3)) {
            return NO_SUCH;
        }
        record();
        int before = state(thread);
        now.is[thread] = "halted";
        now.starving[thread].append('.');
        return before;
    }

    int setRegister(int thread, int register, int value) {
        if (outside(thread, 0, 3) || outside(register, 0, 3)) {
            return NO_SUCH;
        }
        if (outside(value, -32768, 32767)) {
            return BAD_VALUE;
        }
        record();
        int before = now.registers[thread][register];
        now.registers[thread][register] = value;
        return before;
    }

    int setWord(int word, int value) {
        if (outside(word, 0, 31)) {
            return NO_SUCH;
        }
        if (outside(value, -32768, 32767)) {
            return BAD_VALUE;
        }
        record();
        int before = now.words[word];
        now.words[word] = value;
        return before;
    }

    int setSlot(int slot, int thread) {
        if (outside(slot, 0, 7) || outside(thread, 0, 3)) {
            return NO_SUCH;
        }
        record();
        int before = now.slots[slot];
        now.slots[slot] = thread;
        return before;
    }

    int set(int setting, int value) {
        if (outside(setting, 0, 1)) {
            return NO_SUCH;
        }
        if (setting == 0 && outside(value, 0, 20) || setting == 1 && outside(value, 0, 2)) {
            return BAD_VALUE;
        }
        record();
        int before = now.settings[setting];
        now.settings[setting] = value;
        return before;
    }

    int setBreakpoint(int place, boolean isSet) {
        if (outside(place, 0, 47)) {
            return NO_SUCH;
        }
        record();
        if (isSet) {
            now.breakpoints.add(place);
        } else {
            now.breakpoints.remove(place);
        }
        return now.breakpoints.size();
    }

    int run(int cycles) {
        if (outside(cycles, 1, 200)) {
            return BAD_VALUE;
        }
        record();
        int first = now.diary.size();
        while (now.diary.size() < first + cycles && !allHalted(now)) {
            State next = now.copy();
            runCycle(next);
            int[] entry = next.diary.get(next.diary.size() - 1);
            boolean isFirst = now.diary.size() == first;
            if (!isFirst && entry[0] != NOBODY && now.breakpoints.contains(entry[2])) {
                break;
            }
            now = next;
        }
        return now.diary.size() - first;
    }

    int append(int character) {
        if (outside(character, 32, 126)) {
            return BAD_VALUE;
        }
        if (text.length() == 100) {
            return TOO_MANY;
        }
        text += (char) character;
        return text.length();
    }

    int clearText() {
        int before = text.length();
        text = "";
        return before;
    }

    int undo() {
        if (history.isEmpty()) {
            return NONE;
        }
        now = history.remove(history.size() - 1);
        return history.size();
    }

    int state(int thread) {
        if (outside(thread, 0, 3)) {
            return NO_SUCH;
        }
        return List.of("halted", "ready", "loading", "at the barrier").indexOf(now.is[thread]);
    }

    int programCounter(int thread) {
        return outside(thread, 0, 3) ? NO_SUCH : now.counter[thread];
    }

    int register(int thread, int register) {
        return outside(thread, 0, 3) || outside(register, 0, 3) ? NO_SUCH
                : now.registers[thread][register];
    }

    int word(int word) {
        return outside(word, 0, 31) ? NO_SUCH : now.words[word];
    }

    int operation(int place) {
        return outside(place, 0, 47) ? NO_SUCH : now.program[place][0];
    }

    int operand(int place, int operand) {
        if (outside(place, 0, 47)) {
            return NO_SUCH;
        }
        if (outside(operand, 0, 1)) {
            return BAD_VALUE;
        }
        int[] row = now.program[place];
        return operand + 1 < row.length ? row[operand + 1] : NONE;
    }

    int slot(int slot) {
        return outside(slot, 0, 7) ? NO_SUCH : now.slots[slot];
    }

    int setting(int setting) {
        return outside(setting, 0, 1) ? NO_SUCH : now.settings[setting];
    }

    int breakpoint(int place) {
        return outside(place, 0, 47) ? NO_SUCH : now.breakpoints.contains(place) ? 1 : 0;
    }

    int cycle() {
        return now.diary.size();
    }

    int idle() {
        int count = 0;
        for (int[] entry : now.diary) {
            count += entry[0] == NOBODY ? 1 : 0;
        }
        return count;
    }

    int executed(int thread) {
        if (outside(thread, 0, 3)) {
            return NO_SUCH;
        }
        int count = 0;
        for (int[] entry : now.diary) {
            count += entry[0] == thread ? 1 : 0;
        }
        return count;
    }

    int lent(int thread) {
        if (outside(thread, 0, 3)) {
            return NO_SUCH;
        }
        int count = 0;
        for (int[] entry : now.diary) {
            count += entry[0] == thread && entry[1] != thread ? 1 : 0;
        }
        return count;
    }

    int starved(int thread) {
        if (outside(thread, 0, 3)) {
            return NO_SUCH;
        }
        int longest = 0;
        for (String sequence : now.starving[thread].toString().split("\\.")) {
            longest = Math.max(longest, sequence.length());
        }
        return longest;
    }

    int trace(int ago, int part) {
        if (ago < 0 || outside(part, 0, 2)) {
            return BAD_VALUE;
        }
        List<int[]> executed = new ArrayList<>();
        for (int cycle = now.diary.size() - 1; cycle >= 0 && executed.size() < 16; cycle--) {
            int[] entry = now.diary.get(cycle);
            if (entry[0] != NOBODY) {
                executed.add(new int[] {cycle, entry[0], entry[2]});
            }
        }
        return ago < executed.size() ? executed.get(ago)[part] : NONE;
    }

    float use() {
        return cycle() == 0 ? 0.0f : (float) (cycle() - idle()) / (float) cycle();
    }

    int nextThread() {
        State next = now.copy();
        runCycle(next);
        int issuer = next.diary.get(next.diary.size() - 1)[0];
        return issuer == NOBODY ? NONE : issuer;
    }

    int cyclesLeft() {
        return cyclesTo(now.copy());
    }

    int cyclesIf(int latency, int lend) {
        if (outside(latency, 0, 20) || outside(lend, 0, 2)) {
            return BAD_VALUE;
        }
        State changed = now.copy();
        changed.settings = new int[] {latency, lend};
        return cyclesTo(changed);
    }

    int bestLend() {
        int best = NONE;
        for (int lend = 2; lend >= 0; lend--) {
            int cycles = cyclesIf(now.settings[0], lend);
            boolean isBetter = best == NONE || cycles <= cyclesIf(now.settings[0], best);
            if (cycles != NONE && isBetter) {
                best = lend;
            }
        }
        return best;
    }

    int finalWord(int word) {
        if (outside(word, 0, 31)) {
            return NO_SUCH;
        }
        State end = now.copy();
        return cyclesTo(end) == NONE ? NONE : end.words[word];
    }

    private static int cyclesTo(State s) {
        int cycles = 0;
        while (!allHalted(s)) {
            if (cycles == 500) {
                return NONE;
            }
            runCycle(s);
            cycles++;
        }
        return cycles;
    }

    private static boolean allHalted(State s) {
        return count(s, "halted") == 4;
    }

    private static int count(State s, String what) {
        int count = 0;
        for (String is : s.is) {
            count += is.equals(what) ? 1 : 0;
        }
        return count;
    }

    private static void runCycle(State s) {
        int cycle = s.diary.size();
        for (int t = 0; t < 4; t++) {
            if (s.is[t].equals("loading") && cycle >= s.load[t][2] + 1 + s.load[t][3]) {
                s.registers[t][s.load[t][0]] = s.words[s.load[t][1]];
                s.is[t] = "ready";
            }
        }
        if (count(s, "at the barrier") >= 1 && count(s, "ready") + count(s, "loading") == 0) {
            for (int t = 0; t < 4; t++) {
                s.is[t] = s.is[t].equals("at the barrier") ? "ready" : s.is[t];
            }
        }
        int owner = s.slots[cycle % 8];
        int issuer = issuer(s, owner);
        for (int t = 0; t < 4; t++) {
            s.starving[t].append(s.is[t].equals("ready") && t != issuer ? 's' : '.');
        }
        s.diary.add(new int[] {issuer, owner, issuer == NOBODY ? NONE : s.counter[issuer]});
        if (issuer != NOBODY) {
            s.queue.remove(Integer.valueOf(issuer));
            s.queue.add(issuer);
            execute(s, issuer, cycle);
        }
    }

    private static int issuer(State s, int owner) {
        if (s.is[owner].equals("ready")) {
            return owner;
        }
        List<Integer> candidates = new ArrayList<>();
        if (s.settings[1] == 1) {
            candidates.addAll(List.of((owner + 1) % 4, (owner + 2) % 4, (owner + 3) % 4));
        } else if (s.settings[1] == 2) {
            for (int t = 0; t < 4; t++) {
                if (!s.queue.contains(t)) {
                    candidates.add(t);
                }
            }
            candidates.addAll(s.queue);
        }
        for (int t : candidates) {
            if (s.is[t].equals("ready")) {
                return t;
            }
        }
        return NOBODY;
    }

    private static void execute(State s, int t, int cycle) {
        if (s.counter[t] == 48) {
            s.is[t] = "halted";
            return;
        }
        int[] row = s.program[s.counter[t]];
        s.counter[t]++;
        int r = row.length > 1 ? row[1] : 0;
        int n = row.length > 2 ? row[2] : 0;
        int[] registers = s.registers[t];
        if (row[0] == 0) {
            registers[r] = n;
        } else if (row[0] == 1) {
            registers[r] = (short) (registers[r] + registers[n]);
        } else if (row[0] == 2) {
            registers[r] = (short) (registers[r] - registers[n]);
        } else if (row[0] == 3) {
            registers[r] = (short) (registers[r] * registers[n]);
        } else if (row[0] == 4) {
            s.is[t] = "loading";
            s.load[t] = new int[] {r, Math.floorMod(registers[n], 32), cycle, s.settings[0]};
        } else if (row[0] == 5) {
            s.words[Math.floorMod(registers[n], 32)] = registers[r];
        } else if (row[0] == 6) {
            int word = Math.floorMod(registers[n], 32);
            int value = s.words[word];
            s.words[word] = registers[r];
            registers[r] = value;
        } else if (row[0] == 7) {
            s.counter[t] = r;
        } else if (row[0] == 8) {
            s.counter[t] = registers[r] == 0 ? n : s.counter[t];
        } else if (row[0] == 9) {
            s.counter[t] = registers[r] < 0 ? n : s.counter[t];
        } else if (row[0] == 10) {
            s.is[t] = "at the barrier";
        } else {
            s.is[t] = "halted";
        }
    }
}
