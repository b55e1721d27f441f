import java.util.Arrays;

/**
 * A barrel processor: four hardware threads that take turns cycle by cycle. What each method
 * promises stands in ../shared/DOC.md.
 */
public final class BarrelProcessor {
    public static final int NO_SUCH = -100001;
    public static final int BAD_VALUE = -100002;
    public static final int BAD_TEXT = -100003;
    public static final int TOO_MANY = -100004;
    public static final int NONE = -100005;
    public static final int LATENCY = 0, LEND = 1;
    public static final int HALTED = 0, READY = 1, LOADING = 2, AT_BARRIER = 3;

    private static final int THREADS = 4;
    private static final int REGISTERS = 4;
    private static final int PLACES = 48;
    private static final int WORDS = 32;
    private static final int SLOTS = 8;
    private static final int SETTINGS = 2;
    private static final int OPERANDS = 2;
    private static final int LOWEST_VALUE = -32768;
    private static final int HIGHEST_VALUE = 32767;
    private static final int FIRST_LATENCY = 3;
    private static final int HIGHEST_LATENCY = 20;
    private static final int HIGHEST_LEND = 2;
    private static final int MOST_CYCLES_OF_A_RUN = 200;
    private static final int MOST_CYCLES_AHEAD = 500;

    // The order matters: those up to MUL calculate, those up to SWAP reach the data memory.
    private static final int SET = 0;
    private static final int ADD = 1;
    private static final int SUB = 2;
    private static final int MUL = 3;
    private static final int LOAD = 4;
    private static final int STORE = 5;
    private static final int SWAP = 6;
    private static final int JUMP = 7;
    private static final int JZ = 8;
    private static final int JN = 9;
    private static final int SYNC = 10;
    private static final int HALT = 11;

    private final Machine machine;
    private final Machine trial;
    private final History history;
    private final Text text;

    public BarrelProcessor() {
        machine = new Machine();
        // The what-if questions run this copy on, so that the machine itself stays as it is.
        trial = new Machine();
        history = new History();
        text = new Text();
    }

    // ---- actions

    public int assemble(int place) {
        if (!isPlace(place)) {
            return NO_SUCH;
        }
        if (text.findFault() != NONE) {
            return BAD_TEXT;
        }
        int count = text.instructionCount;
        if (place + count > PLACES) {
            return TOO_MANY;
        }
        history.remember(machine);
        machine.program.copyRows(text.instructions, count, place);
        return count;
    }

    public int start(int thread, int place) {
        if (!isThread(thread) || !isPlace(place)) {
            return NO_SUCH;
        }
        history.remember(machine);
        int before = machine.threads[thread].state;
        machine.threads[thread].startAt(place);
        return before;
    }

    public int halt(int thread) {
        if (!isThread(thread)) {
            return NO_SUCH;
        }
        history.remember(machine);
        int before = machine.threads[thread].state;
        machine.threads[thread].haltNow();
        return before;
    }

    public int setRegister(int thread, int register, int value) {
        if (!isThread(thread) || !isRegister(register)) {
            return NO_SUCH;
        }
        if (!isValue(value)) {
            return BAD_VALUE;
        }
        history.remember(machine);
        return replace(machine.threads[thread].registers, register, value);
    }

    public int setWord(int word, int value) {
        if (!isWord(word)) {
            return NO_SUCH;
        }
        if (!isValue(value)) {
            return BAD_VALUE;
        }
        history.remember(machine);
        return replace(machine.words, word, value);
    }

    public int setSlot(int slot, int thread) {
        if (!isSlot(slot) || !isThread(thread)) {
            return NO_SUCH;
        }
        history.remember(machine);
        return replace(machine.slots, slot, thread);
    }

    public int set(int setting, int value) {
        if (!isSetting(setting)) {
            return NO_SUCH;
        }
        if (!isWithin(value, 0, setting == LATENCY ? HIGHEST_LATENCY : HIGHEST_LEND)) {
            return BAD_VALUE;
        }
        history.remember(machine);
        return replace(machine.settings, setting, value);
    }

    public int setBreakpoint(int place, boolean isSet) {
        if (!isPlace(place)) {
            return NO_SUCH;
        }
        history.remember(machine);
        machine.breakpoints[place] = isSet ? 1 : 0;
        return machine.countBreakpoints();
    }

    public int run(int cycles) {
        if (!isWithin(cycles, 1, MOST_CYCLES_OF_A_RUN)) {
            return BAD_VALUE;
        }
        history.remember(machine);
        return machine.runToBreakpoint(cycles);
    }

    // ---- text and history

    public int append(int character) {
        if (!isWithin(character, Text.LOWEST_CHARACTER, Text.HIGHEST_CHARACTER)) {
            return BAD_VALUE;
        }
        if (text.length >= Text.MOST_CHARACTERS) {
            return TOO_MANY;
        }
        text.add((char) character);
        return text.length;
    }

    public int clearText() {
        int before = text.length;
        text.length = 0;
        return before;
    }

    public int fault() {
        return text.findFault();
    }

    public int undo() {
        return history.restore(machine);
    }

    // ---- threads and memories; these methods change nothing

    public int state(int thread) {
        return isThread(thread) ? machine.threads[thread].state : NO_SUCH;
    }

    public int programCounter(int thread) {
        return isThread(thread) ? machine.threads[thread].programCounter : NO_SUCH;
    }

    public int register(int thread, int register) {
        if (!isThread(thread) || !isRegister(register)) {
            return NO_SUCH;
        }
        return machine.threads[thread].registers[register];
    }

    public int word(int word) {
        return isWord(word) ? machine.words[word] : NO_SUCH;
    }

    public int operation(int place) {
        return isPlace(place) ? machine.program.operations[place] : NO_SUCH;
    }

    public int operand(int place, int operand) {
        if (!isPlace(place)) {
            return NO_SUCH;
        }
        if (!isWithin(operand, 0, OPERANDS - 1)) {
            return BAD_VALUE;
        }
        return machine.program.operands[place * OPERANDS + operand];
    }

    public int slot(int slot) {
        return isSlot(slot) ? machine.slots[slot] : NO_SUCH;
    }

    public int setting(int setting) {
        return isSetting(setting) ? machine.settings[setting] : NO_SUCH;
    }

    public int breakpoint(int place) {
        return isPlace(place) ? machine.breakpoints[place] : NO_SUCH;
    }

    // ---- cycles and counters; these methods change nothing

    public int cycle() {
        return machine.cycle;
    }

    public int idle() {
        return machine.idle;
    }

    public int executed(int thread) {
        return isThread(thread) ? machine.threads[thread].executed : NO_SUCH;
    }

    public int lent(int thread) {
        return isThread(thread) ? machine.threads[thread].lent : NO_SUCH;
    }

    public int starved(int thread) {
        return isThread(thread) ? machine.threads[thread].longestStarved : NO_SUCH;
    }

    public int trace(int ago, int part) {
        if (ago < 0 || !isWithin(part, 0, Trace.PARTS - 1)) {
            return BAD_VALUE;
        }
        return machine.trace.lookUp(ago, part);
    }

    public float use() {
        if (machine.cycle == 0) {
            return 0.0f;
        }
        return (float) (machine.cycle - machine.idle) / (float) machine.cycle;
    }

    // ---- what would be; these methods change nothing

    public int nextThread() {
        return machine.findIssuer();
    }

    public int cyclesLeft() {
        return tryOut(machine.settings[LATENCY], machine.settings[LEND]);
    }

    public int cyclesIf(int latency, int lend) {
        if (!isWithin(latency, 0, HIGHEST_LATENCY) || !isWithin(lend, 0, HIGHEST_LEND)) {
            return BAD_VALUE;
        }
        return tryOut(latency, lend);
    }

    public int bestLend() {
        int best = NONE;
        int fewest = MOST_CYCLES_AHEAD + 1;
        for (int lend = 0; lend <= HIGHEST_LEND; lend++) {
            int cycles = tryOut(machine.settings[LATENCY], lend);
            if (cycles != NONE && cycles < fewest) {
                best = lend;
                fewest = cycles;
            }
        }
        return best;
    }

    public int finalWord(int word) {
        if (!isWord(word)) {
            return NO_SUCH;
        }
        int cycles = tryOut(machine.settings[LATENCY], machine.settings[LEND]);
        return cycles == NONE ? NONE : trial.words[word];
    }

    /** Runs the trial to its end with these settings; NONE if it has none soon enough. */
    private int tryOut(int latency, int lend) {
        trial.copyFrom(machine);
        trial.settings[LATENCY] = latency;
        trial.settings[LEND] = lend;
        return trial.runToEnd();
    }

    /** The index must be one of the row. */
    private static int replace(int[] row, int index, int value) {
        int before = row[index];
        row[index] = value;
        return before;
    }

    private static boolean isWithin(int value, int lowest, int highest) {
        return value >= lowest && value <= highest;
    }

    private static boolean isThread(int thread) {
        return isWithin(thread, 0, THREADS - 1);
    }

    private static boolean isRegister(int register) {
        return isWithin(register, 0, REGISTERS - 1);
    }

    private static boolean isPlace(int place) {
        return isWithin(place, 0, PLACES - 1);
    }

    private static boolean isWord(int word) {
        return isWithin(word, 0, WORDS - 1);
    }

    private static boolean isSlot(int slot) {
        return isWithin(slot, 0, SLOTS - 1);
    }

    private static boolean isSetting(int setting) {
        return isWithin(setting, 0, SETTINGS - 1);
    }

    private static boolean isValue(int value) {
        return isWithin(value, LOWEST_VALUE, HIGHEST_VALUE);
    }

    /** One of the four threads, with the load that it waits for and its counters. */
    private static final class HardwareThread {
        /** Below every cycle's number: such a thread has waited longer than all that issued. */
        private static final int NEVER = -1;

        private final int[] registers = new int[REGISTERS];
        private int state = HALTED;
        private int programCounter;
        private int loadRegister;
        private int loadWord;
        /** The first cycle in which the load can finish. */
        private int loadDue;
        /** The last cycle since its start in which it was the issuing thread. */
        private int lastIssue = NEVER;
        private int executed;
        private int lent;
        private int starvedNow;
        private int longestStarved;

        void startAt(int place) {
            Arrays.fill(registers, 0);
            state = READY;
            programCounter = place;
            lastIssue = NEVER;
            starvedNow = 0;
        }

        void haltNow() {
            state = HALTED;
            starvedNow = 0;
        }

        void beginLoad(int register, int word, int due) {
            state = LOADING;
            loadRegister = register;
            loadWord = word;
            loadDue = due;
        }

        boolean hasLoadDue(int cycle) {
            return state == LOADING && loadDue <= cycle;
        }

        void countCycle(boolean isStarved) {
            starvedNow = isStarved ? starvedNow + 1 : 0;
            longestStarved = Math.max(longestStarved, starvedNow);
        }

        void copyFrom(HardwareThread other) {
            System.arraycopy(other.registers, 0, registers, 0, REGISTERS);
            state = other.state;
            programCounter = other.programCounter;
            loadRegister = other.loadRegister;
            loadWord = other.loadWord;
            loadDue = other.loadDue;
            lastIssue = other.lastIssue;
            executed = other.executed;
            lent = other.lent;
            starvedNow = other.starvedNow;
            longestStarved = other.longestStarved;
        }
    }

    /** Rows of instructions; an operand that an instruction does not have is NONE. */
    private static final class Instructions {
        /** More than the places: a text can hold this many (of one letter each). */
        private static final int ROWS = 50;

        private final int[] operations = new int[ROWS];
        private final int[] operands = new int[ROWS * OPERANDS];

        Instructions() {
            Arrays.fill(operations, HALT);
            Arrays.fill(operands, NONE);
        }

        /** The rows must fit: place + count is at most ROWS. */
        void copyRows(Instructions other, int count, int place) {
            System.arraycopy(other.operations, 0, operations, place, count);
            System.arraycopy(other.operands, 0, operands, place * OPERANDS, count * OPERANDS);
        }
    }

    /** The last executed instructions, in a ring. */
    private static final class Trace {
        private static final int PARTS = 3;
        private static final int MOST = 16;

        private final int[] parts = new int[MOST * PARTS];
        private int next;
        private int count;

        void note(int cycle, int thread, int place) {
            int at = next * PARTS;
            parts[at] = cycle;
            parts[at + 1] = thread;
            parts[at + 2] = place;
            next = (next + 1) % MOST;
            count = Math.min(count + 1, MOST);
        }

        int lookUp(int ago, int part) {
            if (ago >= count) {
                return NONE;
            }
            int entry = (next + MOST - 1 - ago) % MOST;
            return parts[entry * PARTS + part];
        }

        void copyFrom(Trace other) {
            System.arraycopy(other.parts, 0, parts, 0, MOST * PARTS);
            next = other.next;
            count = other.count;
        }
    }

    /** All that the document calls the state, and the cycles that change it. */
    private static final class Machine {
        private static final int LEND_TO_NEXT = 1;
        private static final int LEND_TO_LONGEST_WAITING = 2;
        /** Keeps an index in the row of registers even where the operand is not a register. */
        private static final int REGISTER_MASK = REGISTERS - 1;

        private final HardwareThread[] threads = new HardwareThread[THREADS];
        private final Instructions program = new Instructions();
        private final int[] breakpoints = new int[PLACES];
        private final int[] words = new int[WORDS];
        private final int[] slots = new int[SLOTS];
        private final int[] settings = new int[SETTINGS];
        private final Trace trace = new Trace();
        private int cycle;
        private int idle;

        Machine() {
            for (int thread = 0; thread < THREADS; thread++) {
                threads[thread] = new HardwareThread();
            }
            for (int slot = 0; slot < SLOTS; slot++) {
                slots[slot] = slot % THREADS;
            }
            settings[LATENCY] = FIRST_LATENCY;
        }

        void copyFrom(Machine other) {
            for (int thread = 0; thread < THREADS; thread++) {
                threads[thread].copyFrom(other.threads[thread]);
            }
            program.copyRows(other.program, PLACES, 0);
            System.arraycopy(other.breakpoints, 0, breakpoints, 0, PLACES);
            System.arraycopy(other.words, 0, words, 0, WORDS);
            System.arraycopy(other.slots, 0, slots, 0, SLOTS);
            System.arraycopy(other.settings, 0, settings, 0, SETTINGS);
            trace.copyFrom(other.trace);
            cycle = other.cycle;
            idle = other.idle;
        }

        int countBreakpoints() {
            int count = 0;
            for (int place = 0; place < PLACES; place++) {
                count += breakpoints[place];
            }
            return count;
        }

        int runToBreakpoint(int most) {
            for (int cycles = 0; cycles < most; cycles++) {
                if (areAllHalted() || (cycles > 0 && isAtBreakpoint())) {
                    return cycles;
                }
                runCycle();
            }
            return most;
        }

        int runToEnd() {
            for (int cycles = 0; cycles < MOST_CYCLES_AHEAD; cycles++) {
                if (areAllHalted()) {
                    return cycles;
                }
                runCycle();
            }
            return areAllHalted() ? MOST_CYCLES_AHEAD : NONE;
        }

        /**
         * The issuing thread of the next cycle. It is found without doing the first two steps of
         * the cycle, and is the same once they are done, so that questions can ask for it too.
         */
        int findIssuer() {
            int ready = findReady();
            int owner = slotOwner();
            if (isIn(ready, owner)) {
                return owner;
            }
            if (settings[LEND] == LEND_TO_NEXT) {
                return findNextAfter(owner, ready);
            }
            if (settings[LEND] == LEND_TO_LONGEST_WAITING) {
                return findLongestWaiting(ready);
            }
            return NONE;
        }

        private int slotOwner() {
            // A mask and no %, for it fits the row even if the number of the cycle wraps around.
            return slots[cycle & (SLOTS - 1)];
        }

        /** The threads that are ready in step 3 of the next cycle, a bit for each. */
        private int findReady() {
            boolean opens = doesBarrierOpen();
            int ready = 0;
            for (int number = 0; number < THREADS; number++) {
                HardwareThread thread = threads[number];
                if (thread.state == READY
                        || (thread.state == AT_BARRIER && opens)
                        || thread.hasLoadDue(cycle)) {
                    ready |= 1 << number;
                }
            }
            return ready;
        }

        private static boolean isIn(int ready, int number) {
            return (ready & (1 << number)) != 0;
        }

        private static int findNextAfter(int owner, int ready) {
            for (int step = 1; step < THREADS; step++) {
                int number = (owner + step) % THREADS;
                if (isIn(ready, number)) {
                    return number;
                }
            }
            return NONE;
        }

        private int findLongestWaiting(int ready) {
            int longest = NONE;
            int earliest = 0;
            for (int number = 0; number < THREADS; number++) {
                int lastIssue = threads[number].lastIssue;
                if (isIn(ready, number) && (longest == NONE || lastIssue < earliest)) {
                    longest = number;
                    earliest = lastIssue;
                }
            }
            return longest;
        }

        private boolean areAllHalted() {
            for (int number = 0; number < THREADS; number++) {
                if (threads[number].state != HALTED) {
                    return false;
                }
            }
            return true;
        }

        private boolean isAtBreakpoint() {
            int issuer = findIssuer();
            if (!isThread(issuer)) {
                return false;
            }
            int place = threads[issuer].programCounter;
            return isPlace(place) && breakpoints[place] == 1;
        }

        private void runCycle() {
            finishLoads();
            openBarrier();
            int issuer = findIssuer();
            countStarving(issuer);
            if (isThread(issuer)) {
                noteIssue(issuer);
                executeNext(threads[issuer]);
            } else {
                idle++;
            }
            cycle++;
        }

        private void finishLoads() {
            for (int number = 0; number < THREADS; number++) {
                HardwareThread thread = threads[number];
                if (thread.hasLoadDue(cycle)) {
                    thread.registers[thread.loadRegister] = words[thread.loadWord];
                    thread.state = READY;
                }
            }
        }

        private boolean doesBarrierOpen() {
            boolean isOneThere = false;
            for (int number = 0; number < THREADS; number++) {
                int state = threads[number].state;
                // A load that finishes in this cycle makes its thread ready: closed all the same.
                if (state == READY || state == LOADING) {
                    return false;
                }
                isOneThere = isOneThere || state == AT_BARRIER;
            }
            return isOneThere;
        }

        private void openBarrier() {
            if (!doesBarrierOpen()) {
                return;
            }
            for (int number = 0; number < THREADS; number++) {
                if (threads[number].state == AT_BARRIER) {
                    threads[number].state = READY;
                }
            }
        }

        private void countStarving(int issuer) {
            for (int number = 0; number < THREADS; number++) {
                HardwareThread thread = threads[number];
                thread.countCycle(thread.state == READY && number != issuer);
            }
        }

        private void noteIssue(int number) {
            HardwareThread thread = threads[number];
            thread.executed++;
            if (number != slotOwner()) {
                thread.lent++;
            }
            thread.lastIssue = cycle;
            trace.note(cycle, number, thread.programCounter);
        }

        private void executeNext(HardwareThread thread) {
            int place = thread.programCounter;
            if (!isPlace(place)) {
                thread.state = HALTED;
                return;
            }
            thread.programCounter = place + 1;
            int operation = program.operations[place];
            int first = program.operands[place * OPERANDS];
            int second = program.operands[place * OPERANDS + 1];
            if (operation <= MUL) {
                calculate(thread.registers, operation, first, second);
            } else if (operation <= SWAP) {
                reachMemory(thread, operation, first, second);
            } else {
                steer(thread, operation, first, second);
            }
        }

        private static void calculate(int[] registers, int operation, int first, int second) {
            int r = first & REGISTER_MASK;
            int operand = registers[second & REGISTER_MASK];
            switch (operation) {
                case SET:
                    registers[r] = second;
                    break;
                case ADD:
                    registers[r] = (short) (registers[r] + operand);
                    break;
                case SUB:
                    registers[r] = (short) (registers[r] - operand);
                    break;
                default:
                    registers[r] = (short) (registers[r] * operand);
                    break;
            }
        }

        private void reachMemory(HardwareThread thread, int operation, int first, int second) {
            int r = first & REGISTER_MASK;
            int word = thread.registers[second & REGISTER_MASK] & (WORDS - 1);
            if (operation == LOAD) {
                thread.beginLoad(r, word, cycle + 1 + settings[LATENCY]);
                return;
            }
            int before = words[word];
            words[word] = thread.registers[r];
            if (operation == SWAP) {
                thread.registers[r] = before;
            }
        }

        private static void steer(HardwareThread thread, int operation, int first, int second) {
            int tested = thread.registers[first & REGISTER_MASK];
            switch (operation) {
                case JUMP:
                    thread.programCounter = first;
                    break;
                case JZ:
                    thread.programCounter = tested == 0 ? second : thread.programCounter;
                    break;
                case JN:
                    thread.programCounter = tested < 0 ? second : thread.programCounter;
                    break;
                case SYNC:
                    thread.state = AT_BARRIER;
                    break;
                default:
                    thread.state = HALTED;
                    break;
            }
        }
    }

    /** The latest states before actions, in a ring whose rows are made once. */
    private static final class History {
        private static final int MOST = 4;

        private final Machine[] states = new Machine[MOST];
        private int next;
        private int count;

        History() {
            for (int at = 0; at < MOST; at++) {
                states[at] = new Machine();
            }
        }

        void remember(Machine machine) {
            states[next].copyFrom(machine);
            next = (next + 1) % MOST;
            count = Math.min(count + 1, MOST);
        }

        int restore(Machine machine) {
            if (count == 0) {
                return NONE;
            }
            next = (next + MOST - 1) % MOST;
            count--;
            machine.copyFrom(states[next]);
            return count;
        }
    }

    /**
     * The text, and the instructions that it held when it was last read. Each method that reads
     * a piece takes the characters that can stand there and leaves the position behind them; so
     * where a piece is wrong, the position is the fault.
     */
    private static final class Text {
        private static final int MOST_CHARACTERS = 100;
        private static final int LOWEST_CHARACTER = 32;
        private static final int HIGHEST_CHARACTER = 126;
        /** The letter at an operation's number begins its instruction. */
        private static final String LETTERS = "sadmlwxjznbh";

        private final char[] characters = new char[MOST_CHARACTERS];
        private int length;
        private int position;
        private final Instructions instructions = new Instructions();
        private int instructionCount;
        private int operandCount;

        void add(char character) {
            if (length < MOST_CHARACTERS) {
                characters[length] = character;
                length++;
            }
        }

        /** Reads the text into the instructions; NONE if it has no fault. */
        int findFault() {
            position = 0;
            instructionCount = 0;
            boolean isRight = readInstruction();
            // A counter of its own bounds the loop: each turn takes a character at least.
            for (int turn = 0; turn < MOST_CHARACTERS && isRight && position < length; turn++) {
                isRight = readSign(';') && readInstruction();
            }
            return isRight ? NONE : position;
        }

        private boolean readInstruction() {
            if (position >= length || instructionCount >= Instructions.ROWS) {
                return false;
            }
            int operation = LETTERS.indexOf(characters[position]);
            if (operation < 0) {
                return false;
            }
            position++;
            beginRow(operation);
            if (!readOperands(operation)) {
                return false;
            }
            instructionCount++;
            return true;
        }

        private void beginRow(int operation) {
            instructions.operations[instructionCount] = operation;
            instructions.operands[instructionCount * OPERANDS] = NONE;
            instructions.operands[instructionCount * OPERANDS + 1] = NONE;
            operandCount = 0;
        }

        private boolean readOperands(int operation) {
            switch (operation) {
                case SET:
                    return readRegister() && readSign('=') && readNumber();
                case JUMP:
                    return readPlace();
                case JZ:
                case JN:
                    return readRegister() && readSign('>') && readPlace();
                case SYNC:
                case HALT:
                    return true;
                default:
                    return readRegister() && readRegister();
            }
        }

        private boolean readSign(char sign) {
            if (position >= length || characters[position] != sign) {
                return false;
            }
            position++;
            return true;
        }

        private boolean isDigit(int lowest, int highest) {
            return position < length && isWithin(characters[position] - '0', lowest, highest);
        }

        /** Only where isDigit has answered true. */
        private int takeDigit() {
            if (position >= length) {
                return 0;
            }
            int digit = characters[position] - '0';
            position++;
            return digit;
        }

        private boolean readRegister() {
            if (!isDigit(0, REGISTERS - 1)) {
                return false;
            }
            keepOperand(takeDigit());
            return true;
        }

        private boolean readNumber() {
            boolean isNegative = readSign('-');
            if (!isDigit(isNegative ? 1 : 0, 9)) {
                return false;
            }
            int number = takeDigit();
            if (number != 0 && isDigit(0, 9)) {
                number = number * 10 + takeDigit();
            }
            keepOperand(isNegative ? -number : number);
            return true;
        }

        private boolean readPlace() {
            if (!isDigit(0, 9)) {
                return false;
            }
            int place = takeDigit();
            int highestSecond = Math.min(9, PLACES - 1 - place * 10);
            if (place != 0 && isDigit(0, highestSecond)) {
                place = place * 10 + takeDigit();
            }
            keepOperand(place);
            return true;
        }

        private void keepOperand(int value) {
            if (operandCount < OPERANDS) {
                instructions.operands[instructionCount * OPERANDS + operandCount] = value;
                operandCount++;
            }
        }
    }
}
