/** Each sentence of "Threads, registers, memories" and "Instructions", at its edges. */
public final class ThreadsEdgeTest {
    private static final String THREADS = "Threads, registers, memories";
    private static final String INSTRUCTIONS = "Instructions";
    private static final String USE = "What it is";
    private static final int HALTED = BarrelProcessor.HALTED;
    private static final int READY = BarrelProcessor.READY;
    private static final int LOADING = BarrelProcessor.LOADING;
    private static final int AT_BARRIER = BarrelProcessor.AT_BARRIER;
    private static final int LATENCY = BarrelProcessor.LATENCY;
    private static final int LEND = BarrelProcessor.LEND;
    private static final int LOWEST = -32768;
    private static final int HIGHEST = 32767;
    /** Values of a register, each followed by what its lowest 5 bits are. */
    private static final int[][] LOWEST_BITS = {{0, 0}, {1, 1}, {16, 16}, {31, 31}, {32, 0},
        {33, 1}, {63, 31}, {64, 0}, {-1, 31}, {-31, 1}, {-32, 0}, {-33, 31}, {HIGHEST, 31},
        {LOWEST, 0}, {LOWEST + 1, 1}};
    private static final Check CHECK = new Check("ThreadsEdgeTest");
    private static final Document DOC = new Document(CHECK, THREADS, INSTRUCTIONS);

    public static void main(String[] args) {
        fourThreads();
        fourRegistersOfEachThread();
        fortyEightPlaces();
        thirtyTwoWords();
        valuesReachFromLowestToHighest();
        sumsWrapAround();
        differencesWrapAround();
        productsWrapAround();
        statesOfAThread();
        setTakesItsWholeRange();
        operationsOfARegisterWithItself();
        loadTakesTheLowestFiveBits();
        loadTakesEachRegister();
        loadTakesTheRegisterAsItWas();
        storeTakesTheLowestFiveBits();
        swapTakesTheLowestFiveBits();
        swapDeterminesTheWordFirst();
        jumpsToTheFirstAndTheLastPlace();
        jumpsAtZeroAlone();
        jumpsBelowZeroAlone();
        barrierAndHalt();
        counterIsIncreasedFirst();
        counterStaysBehindTheLastPlace();
        fiveHundredAndTwelveCalls();
        DOC.finish();
        CHECK.finish();
    }

    private static void fourThreads() {
        DOC.says(THREADS, "There are four threads, 0 to 3.");
        BarrelProcessor x = Check.with("s0=1;h");
        for (int thread = 0; thread < 4; thread++) {
            CHECK.due("start", x.start(thread, 0), HALTED);
        }
        CHECK.due("run(200) of four threads with two instructions", x.run(200), 8);
        for (int thread = 0; thread < 4; thread++) {
            CHECK.due("executed", x.executed(thread), 2);
            CHECK.due("register", x.register(thread, 0), 1);
        }
        CHECK.due("state(-1)", x.state(-1), BarrelProcessor.NO_SUCH);
        CHECK.due("state(4)", x.state(4), BarrelProcessor.NO_SUCH);
    }

    private static void fourRegistersOfEachThread() {
        DOC.says(THREADS, "Each thread has a program counter and four registers, 0 to 3.");
        BarrelProcessor x = Check.with("s0=10;s1=11;s2=12;s3=13;h;h;a00;a11;a22;a33;h");
        x.start(0, 0);
        x.start(3, 0);
        x.start(1, 5);
        CHECK.due("run(200)", x.run(200), 20);
        x.start(0, 6);
        for (int register = 0; register < 4; register++) {
            CHECK.due("register of 3", x.register(3, register), 10 + register);
            CHECK.due("register of 0 anew", x.register(0, register), 0);
            CHECK.due("register of 1", x.register(1, register), 0);
        }
        CHECK.due("programCounter(0)", x.programCounter(0), 6);
        CHECK.due("programCounter(1)", x.programCounter(1), 6);
        CHECK.due("programCounter(2)", x.programCounter(2), 0);
        CHECK.due("programCounter(3)", x.programCounter(3), 5);
        CHECK.due("register(3, -1)", x.register(3, -1), BarrelProcessor.NO_SUCH);
        CHECK.due("register(3, 4)", x.register(3, 4), BarrelProcessor.NO_SUCH);
    }

    private static void fortyEightPlaces() {
        DOC.says(THREADS, "The program memory has 48 places, 0 to 47, each with an instruction "
                + "(at first each one is the instruction HALT).");
        for (int place = 0; place < 48; place++) {
            BarrelProcessor x = new BarrelProcessor();
            CHECK.due("operation", x.operation(place), 11);
            x.start(0, place);
            CHECK.due("run(9) from the place " + place, x.run(9), 1);
            CHECK.due("state(0)", x.state(0), HALTED);
            CHECK.due("programCounter(0)", x.programCounter(0), place + 1);
            CHECK.due("trace(0, 2)", x.trace(0, 2), place);
        }
        BarrelProcessor x = new BarrelProcessor();
        CHECK.due("operation(-1)", x.operation(-1), BarrelProcessor.NO_SUCH);
        CHECK.due("operation(48)", x.operation(48), BarrelProcessor.NO_SUCH);
    }

    private static void thirtyTwoWords() {
        DOC.says(THREADS, "The data memory has 32 words, 0 to 31.");
        BarrelProcessor x = Check.with("w01;j0");
        x.set(LEND, 1);
        x.start(0, 0);
        for (int word = 0; word < 32; word++) {
            x.setRegister(0, 0, 500 - word);
            x.setRegister(0, 1, word);
            x.run(2);
        }
        for (int word = 0; word < 32; word++) {
            CHECK.due("word " + word, x.word(word), 500 - word);
        }
        CHECK.due("word(-1)", x.word(-1), BarrelProcessor.NO_SUCH);
        CHECK.due("word(32)", x.word(32), BarrelProcessor.NO_SUCH);
    }

    private static void valuesReachFromLowestToHighest() {
        DOC.says(THREADS, "Registers and words hold values from -32768 to 32767 (0 at first)");
        BarrelProcessor x = new BarrelProcessor();
        CHECK.due("setRegister", x.setRegister(2, 1, LOWEST), 0);
        CHECK.due("setRegister", x.setRegister(2, 1, HIGHEST), LOWEST);
        CHECK.due("register", x.register(2, 1), HIGHEST);
        CHECK.due("setWord", x.setWord(30, LOWEST), 0);
        CHECK.due("setWord", x.setWord(30, HIGHEST), LOWEST);
        CHECK.due("word", x.word(30), HIGHEST);
    }

    /** Thread 0 with these registers has executed the one instruction, at the place 0. */
    private static BarrelProcessor after(String instruction, int r0, int r1) {
        BarrelProcessor x = Check.with(instruction);
        x.start(0, 0);
        x.setRegister(0, 0, r0);
        x.setRegister(0, 1, r1);
        CHECK.due("run(1) of " + instruction, x.run(1), 1);
        return x;
    }

    private static void result(String instruction, int r0, int r1, int want) {
        BarrelProcessor x = after(instruction, r0, r1);
        String call = instruction + " of " + r0 + " and " + r1;
        CHECK.due(call, x.register(0, 0), want);
        CHECK.due(call + " keeps the other register", x.register(0, 1), r1);
    }

    private static void sumsWrapAround() {
        DOC.says(THREADS, "the result of an operation is reduced to this range by keeping its "
                + "lowest 16 bits, as a cast to short does.");
        DOC.says(INSTRUCTIONS, "- 1 ADD r, q: the register r gets the sum of the registers r and "
                + "q.");
        result("a01", 32766, 1, HIGHEST);
        result("a01", HIGHEST, 1, LOWEST);
        result("a01", HIGHEST, HIGHEST, -2);
        result("a01", -32767, -1, LOWEST);
        result("a01", LOWEST, -1, HIGHEST);
        result("a01", LOWEST, LOWEST, 0);
        result("a01", LOWEST, HIGHEST, -1);
    }

    private static void differencesWrapAround() {
        DOC.says(THREADS, "the result of an operation is reduced to this range by keeping its "
                + "lowest 16 bits, as a cast to short does.");
        DOC.says(INSTRUCTIONS, "- 2 SUB r, q: the register r gets the difference r - q of both "
                + "registers.");
        result("d01", -32767, 1, LOWEST);
        result("d01", LOWEST, 1, HIGHEST);
        result("d01", HIGHEST, -1, LOWEST);
        result("d01", 0, LOWEST, LOWEST);
        result("d01", -1, LOWEST, HIGHEST);
        result("d01", LOWEST, HIGHEST, 1);
        result("d01", HIGHEST, LOWEST, -1);
    }

    private static void productsWrapAround() {
        DOC.says(THREADS, "the result of an operation is reduced to this range by keeping its "
                + "lowest 16 bits, as a cast to short does.");
        DOC.says(INSTRUCTIONS, "- 3 MUL r, q: the register r gets the product of the registers r "
                + "and q.");
        result("m01", 181, 181, 32761);
        result("m01", 182, 181, -32594);
        result("m01", 256, 128, LOWEST);
        result("m01", 256, -128, LOWEST);
        result("m01", 256, 256, 0);
        result("m01", LOWEST, -1, LOWEST);
        result("m01", LOWEST, LOWEST, 0);
        result("m01", HIGHEST, HIGHEST, 1);
        result("m01", HIGHEST, LOWEST, LOWEST);
        result("m01", -3, 5, -15);
    }

    private static void statesOfAThread() {
        DOC.says(THREADS, "A thread is halted (at first), ready, loading, or at the barrier.");
        BarrelProcessor x = Check.with("a00;l00;b;h");
        x.set(LATENCY, 0);
        x.set(LEND, 1);
        CHECK.due("state at first", x.state(1), HALTED);
        x.start(1, 0);
        CHECK.due("state when started", x.state(1), READY);
        int[] after = {READY, LOADING, AT_BARRIER, HALTED};
        for (int state : after) {
            x.run(1);
            CHECK.due("state after the cycle " + (x.cycle() - 1), x.state(1), state);
        }
    }

    private static void setTakesItsWholeRange() {
        DOC.says(INSTRUCTIONS, "The operations of the instructions are:",
                "- 0 SET r, n: the register r gets the number n.");
        int[] numbers = {-99, -10, -9, -1, 0, 1, 9, 10, 99};
        for (int number : numbers) {
            for (int register = 0; register < 4; register++) {
                BarrelProcessor x = Check.with("s" + register + "=" + number);
                x.start(0, 0);
                for (int other = 0; other < 4; other++) {
                    x.setRegister(0, other, 1000 + other);
                }
                x.run(1);
                for (int other = 0; other < 4; other++) {
                    CHECK.due("register " + other + " after s" + register + "=" + number,
                            x.register(0, other), other == register ? number : 1000 + other);
                }
            }
        }
    }

    private static void operationsOfARegisterWithItself() {
        DOC.says(INSTRUCTIONS, "- 1 ADD r, q: the register r gets the sum of the registers r and "
                + "q.", "- 2 SUB r, q: the register r gets the difference r - q of both registers.",
                "- 3 MUL r, q: the register r gets the product of the registers r and q.");
        result("a00", 16384, 5, LOWEST);
        result("a00", LOWEST, 5, 0);
        result("d00", LOWEST, 5, 0);
        result("m00", -181, 5, 32761);
        result("m00", 256, 5, 0);
    }

    /** Each word holds 100 and its number. */
    private static void fillWords(BarrelProcessor x) {
        for (int word = 0; word < 32; word++) {
            x.setWord(word, 100 + word);
        }
    }

    private static void loadTakesTheLowestFiveBits() {
        DOC.says(INSTRUCTIONS, "- 4 LOAD r, q: the thread is loading: it will load into the "
                + "register r the word whose number is given by the lowest 5 bits of the register "
                + "q");
        for (int[] bits : LOWEST_BITS) {
            BarrelProcessor x = Check.with("l01;h");
            fillWords(x);
            x.start(0, 0);
            x.setRegister(0, 0, 7);
            x.setRegister(0, 1, bits[0]);
            x.run(1);
            CHECK.due("state", x.state(0), LOADING);
            CHECK.due("register before the load ends", x.register(0, 0), 7);
            x.run(20);
            CHECK.due("load by " + bits[0], x.register(0, 0), 100 + bits[1]);
            CHECK.due("q after the load", x.register(0, 1), bits[0]);
            CHECK.due("the word after the load", x.word(bits[1]), 100 + bits[1]);
        }
    }

    private static void loadTakesEachRegister() {
        DOC.says(INSTRUCTIONS, "it will load into the register r the word whose number is given by "
                + "the lowest 5 bits of the register q");
        for (int r = 0; r < 4; r++) {
            for (int q = 0; q < 4; q++) {
                BarrelProcessor x = Check.with("l" + r + q + ";h");
                fillWords(x);
                x.start(0, 0);
                for (int register = 0; register < 4; register++) {
                    x.setRegister(0, register, 40 + register);
                }
                x.run(20);
                for (int register = 0; register < 4; register++) {
                    CHECK.due("register " + register + " after l" + r + q,
                            x.register(0, register), register == r ? 108 + q : 40 + register);
                }
            }
        }
    }

    private static void loadTakesTheRegisterAsItWas() {
        DOC.says(INSTRUCTIONS, "- 4 LOAD r, q: the thread is loading: it will load into the "
                + "register r the word whose number is given by the lowest 5 bits of the register "
                + "q (as the register q is when the instruction is executed).");
        BarrelProcessor x = Check.with("l01;l00;h");
        fillWords(x);
        x.start(0, 0);
        x.setRegister(0, 1, 31);
        x.run(1);
        x.setRegister(0, 1, 0);
        x.run(4);
        CHECK.due("load by the old value of q", x.register(0, 0), 131);
        CHECK.due("state in the load into q itself", x.state(0), LOADING);
        x.setRegister(0, 0, 5);
        x.run(4);
        CHECK.due("load into q itself", x.register(0, 0), 103);
    }

    private static void storeTakesTheLowestFiveBits() {
        DOC.says(INSTRUCTIONS, "- 5 STORE r, q: the word whose number is given by the lowest 5 "
                + "bits of the register q gets the value of the register r.");
        for (int[] bits : LOWEST_BITS) {
            BarrelProcessor x = Check.with("w01;w11");
            fillWords(x);
            x.start(0, 0);
            x.setRegister(0, 0, LOWEST);
            x.setRegister(0, 1, bits[0]);
            x.run(1);
            for (int word = 0; word < 32; word++) {
                CHECK.due("word " + word + " after a store by " + bits[0], x.word(word),
                        word == bits[1] ? LOWEST : 100 + word);
            }
            CHECK.due("r after the store", x.register(0, 0), LOWEST);
            CHECK.due("q after the store", x.register(0, 1), bits[0]);
            x.run(4);
            CHECK.due("a store of q itself", x.word(bits[1]), bits[0]);
        }
    }

    private static void swapTakesTheLowestFiveBits() {
        DOC.says(INSTRUCTIONS, "- 6 SWAP r, q: the register r and the word whose number is given "
                + "by the lowest 5 bits of the register q exchange their values;");
        for (int[] bits : LOWEST_BITS) {
            BarrelProcessor x = Check.with("x01");
            fillWords(x);
            x.start(0, 0);
            x.setRegister(0, 0, HIGHEST);
            x.setRegister(0, 1, bits[0]);
            x.run(1);
            for (int word = 0; word < 32; word++) {
                CHECK.due("word " + word + " after a swap by " + bits[0], x.word(word),
                        word == bits[1] ? HIGHEST : 100 + word);
            }
            CHECK.due("r after the swap", x.register(0, 0), 100 + bits[1]);
            CHECK.due("q after the swap", x.register(0, 1), bits[0]);
            CHECK.due("state after the swap", x.state(0), READY);
        }
    }

    private static void swapDeterminesTheWordFirst() {
        DOC.says(INSTRUCTIONS, "the number of the word is determined first (r and q can be the "
                + "same register).");
        for (int[] bits : LOWEST_BITS) {
            BarrelProcessor x = Check.with("x00");
            fillWords(x);
            x.start(0, 0);
            x.setRegister(0, 0, bits[0]);
            x.run(1);
            CHECK.due("r after a swap by " + bits[0], x.register(0, 0), 100 + bits[1]);
            for (int word = 0; word < 32; word++) {
                CHECK.due("word " + word + " after a swap by itself, " + bits[0], x.word(word),
                        word == bits[1] ? bits[0] : 100 + word);
            }
        }
    }

    private static void jumpsToTheFirstAndTheLastPlace() {
        DOC.says(INSTRUCTIONS, "- 7 JUMP n: the program counter becomes n.");
        int[] places = {0, 1, 9, 10, 46, 47};
        String[] jumps = {"j", "z1>", "n0>"};
        for (int place : places) {
            for (String jump : jumps) {
                BarrelProcessor x = after(jump + place, -1, 0);
                CHECK.due(jump + place, x.programCounter(0), place);
                CHECK.due("state after " + jump + place, x.state(0), READY);
                CHECK.due("register(0, 0) after it", x.register(0, 0), -1);
                CHECK.due("register(0, 1) after it", x.register(0, 1), 0);
            }
        }
    }

    private static void jumpsAtZeroAlone() {
        DOC.says(INSTRUCTIONS, "- 8 JZ r, n: if the register r is 0, the program counter becomes "
                + "n.");
        int[] others = {1, -1, LOWEST, HIGHEST, 256, -256};
        CHECK.due("z0>9 of 0", after("z0>9", 0, 1).programCounter(0), 9);
        CHECK.due("z1>9 of 0", after("z1>9", 1, 0).programCounter(0), 9);
        for (int other : others) {
            CHECK.due("z0>9 of " + other, after("z0>9", other, 0).programCounter(0), 1);
            CHECK.due("z1>9 of " + other, after("z1>9", 0, other).programCounter(0), 1);
        }
    }

    private static void jumpsBelowZeroAlone() {
        DOC.says(INSTRUCTIONS, "- 9 JN r, n: if the register r is negative, the program counter "
                + "becomes n.");
        int[] negatives = {-1, -2, LOWEST};
        int[] others = {0, 1, HIGHEST};
        for (int value : negatives) {
            CHECK.due("n0>9 of " + value, after("n0>9", value, 0).programCounter(0), 9);
            CHECK.due("n1>9 of " + value, after("n1>9", 0, value).programCounter(0), 9);
        }
        for (int value : others) {
            CHECK.due("n0>9 of " + value, after("n0>9", value, -1).programCounter(0), 1);
            CHECK.due("n1>9 of " + value, after("n1>9", -1, value).programCounter(0), 1);
        }
    }

    private static void barrierAndHalt() {
        DOC.says(INSTRUCTIONS, "- 10 SYNC: the thread is at the barrier.",
                "- 11 HALT: the thread is halted.");
        BarrelProcessor x = after("b", 5, 6);
        CHECK.due("state after b", x.state(0), AT_BARRIER);
        CHECK.due("register after b", x.register(0, 0), 5);
        x = after("h", 5, 6);
        CHECK.due("state after h", x.state(0), HALTED);
        CHECK.due("register after h", x.register(0, 1), 6);
    }

    private static void counterIsIncreasedFirst() {
        DOC.says(INSTRUCTIONS, "When a thread executes an instruction, its program counter is "
                + "first increased by 1;", "then the operation is done.");
        String[] straight = {"s0=0", "a01", "d01", "m01", "l01", "w01", "x01", "z0>0", "n0>0", "b",
            "h"};
        for (String instruction : straight) {
            for (int place = 0; place < 48; place += 47) {
                BarrelProcessor x = new BarrelProcessor();
                Check.type(x, instruction);
                x.assemble(place);
                x.start(0, place);
                x.setRegister(0, 0, 1);
                x.run(1);
                CHECK.due("programCounter after " + instruction + " at " + place,
                        x.programCounter(0), place + 1);
                CHECK.due("state after " + instruction, x.state(0), stateAfter(instruction));
            }
        }
    }

    private static int stateAfter(String instruction) {
        switch (instruction.charAt(0)) {
            case 'l': return LOADING;
            case 'b': return AT_BARRIER;
            case 'h': return HALTED;
            default: return READY;
        }
    }

    private static void counterStaysBehindTheLastPlace() {
        DOC.says(INSTRUCTIONS, "If the program counter of a thread is 48 when it is to execute an "
                + "instruction, the thread executes HALT instead, and its program counter stays "
                + "48.");
        String[] last = {"s0=0", "l01", "x01", "z0>0", "n0>0", "b"};
        for (String instruction : last) {
            BarrelProcessor x = new BarrelProcessor();
            Check.type(x, instruction);
            x.assemble(47);
            x.set(LATENCY, 0);
            x.set(LEND, 1);
            x.start(3, 47);
            x.setRegister(3, 0, 1);
            x.run(1);
            CHECK.due("programCounter after " + instruction, x.programCounter(3), 48);
            CHECK.due("run(9)", x.run(9), 1);
            CHECK.due("state(3)", x.state(3), HALTED);
            CHECK.due("programCounter(3)", x.programCounter(3), 48);
            CHECK.due("executed(3)", x.executed(3), 2);
            CHECK.due("trace(0, 2)", x.trace(0, 2), 48);
            CHECK.due("idle", x.idle(), 0);
        }
    }

    private static void fiveHundredAndTwelveCalls() {
        DOC.says(USE, "An object is used for at most 512 calls after it has been made;");
        BarrelProcessor x = new BarrelProcessor();
        x.append('j');
        x.append('0');
        x.assemble(0);
        x.start(3, 0);
        for (int call = 5; call <= 510; call++) {
            CHECK.due("run(200) as the call " + call, x.run(200), 200);
        }
        CHECK.due("cycle() as the call 511", x.cycle(), 101200);
        CHECK.due("executed(3) as the call 512", x.executed(3), 25300);
    }
}
