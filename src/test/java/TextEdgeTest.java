/** Each sentence of "Text" and of promises 2, 11 to 13, 19 and 20, at its edges. */
public final class TextEdgeTest {
    private static final String TEXT = "Text";
    private static final String ASSEMBLE = "Promise 2: assemble";
    private static final String APPEND = "Promise 11: append";
    private static final String CLEAR_TEXT = "Promise 12: clearText";
    private static final String FAULT = "Promise 13: fault";
    private static final String OPERATION = "Promise 19: operation";
    private static final String OPERAND = "Promise 20: operand";
    private static final int NO_SUCH = BarrelProcessor.NO_SUCH;
    private static final int BAD_VALUE = BarrelProcessor.BAD_VALUE;
    private static final int BAD_TEXT = BarrelProcessor.BAD_TEXT;
    private static final int TOO_MANY = BarrelProcessor.TOO_MANY;
    private static final int NONE = BarrelProcessor.NONE;
    private static final String LETTERS = "sadmlwxjznbh";
    private static final String DIGITS = "0123456789";
    /**
     * Each kind of beginning of an instruction, and the characters that can follow it: a
     * semicolon where it is whole.
     */
    private static final String[][] BEGINNINGS = {
        {"", LETTERS}, {"b", ";"}, {"h", ";"},
        {"s", "0123"}, {"s0", "="}, {"s3", "="}, {"s2=", "-" + DIGITS}, {"s0=-", "123456789"},
        {"s0=0", ";"}, {"s0=1", ";" + DIGITS}, {"s1=9", ";" + DIGITS}, {"s0=-1", ";" + DIGITS},
        {"s0=-9", ";" + DIGITS}, {"s0=10", ";"}, {"s3=99", ";"}, {"s0=-10", ";"}, {"s0=-99", ";"},
        {"a", "0123"}, {"a0", "0123"}, {"a3", "0123"}, {"a00", ";"}, {"a33", ";"},
        {"d", "0123"}, {"d1", "0123"}, {"d12", ";"}, {"m", "0123"}, {"m2", "0123"}, {"m23", ";"},
        {"l", "0123"}, {"l3", "0123"}, {"l30", ";"}, {"w", "0123"}, {"w0", "0123"}, {"w01", ";"},
        {"x", "0123"}, {"x1", "0123"}, {"x13", ";"},
        {"j", DIGITS}, {"j0", ";"}, {"j1", ";" + DIGITS}, {"j3", ";" + DIGITS},
        {"j4", ";01234567"}, {"j5", ";"}, {"j9", ";"}, {"j10", ";"}, {"j40", ";"}, {"j47", ";"},
        {"z", "0123"}, {"z0", ">"}, {"z3", ">"}, {"z3>", DIGITS}, {"z0>0", ";"},
        {"z0>1", ";" + DIGITS}, {"z0>4", ";01234567"}, {"z0>5", ";"}, {"z0>47", ";"},
        {"n", "0123"}, {"n0", ">"}, {"n3", ">"}, {"n0>", DIGITS}, {"n0>0", ";"},
        {"n0>3", ";" + DIGITS}, {"n0>4", ";01234567"}, {"n0>9", ";"}, {"n0>47", ";"}};
    private static final Check CHECK = new Check("TextEdgeTest");
    private static final Document DOC = new Document(CHECK, TEXT, ASSEMBLE, APPEND, CLEAR_TEXT,
            FAULT, OPERATION, OPERAND);

    public static void main(String[] args) {
        textIsEmptyAtFirst();
        textHoldsOneHundred();
        lettersInTheirOrder();
        registersAreZeroToThree();
        numbersReachFromLowestToHighest();
        numbersThatAreNone();
        placesReachFromFirstToLast();
        placesThatAreNone();
        faultIsTheFirstCharacterThatCannotStand();
        faultAfterOtherInstructions();
        faultDoesNotMindTheRoom();
        faultOfATextThatIsNotComplete();
        noFault();
        assembleTakesEachPlace();
        assembleRefusesOtherPlaces();
        assembleRefusesATextWithAFault();
        assembleRefusesWhatDoesNotFit();
        assembleKeepsTheText();
        appendTakesEachCharacter();
        appendRefusesOtherCharacters();
        appendRefusesTheHundredAndFirst();
        clearTextOfNoneAndOfAll();
        operationOfEachPlace();
        operationRefusesOtherPlaces();
        operandsInTheirOrder();
        operandRefusesOtherPlaces();
        operandRefusesOtherOperands();
        operandThatIsNotThere();
        DOC.finish();
        CHECK.finish();
    }

    private static BarrelProcessor typed(String text) {
        BarrelProcessor x = new BarrelProcessor();
        Check.type(x, text);
        return x;
    }

    private static void fault(String text, int want) {
        CHECK.due("fault of '" + text + "'", typed(text).fault(), want);
    }

    /** A whole text of so many characters, 1 or more. */
    private static String wholeText(int length) {
        StringBuilder text = new StringBuilder(length % 2 == 1 ? "b" : "j1");
        while (text.length() < length) {
            text.append(";h");
        }
        return text.toString();
    }

    private static void textIsEmptyAtFirst() {
        DOC.says(TEXT, "There is a text of at most 100 characters (empty at first), which contains "
                + "instructions:");
        BarrelProcessor x = new BarrelProcessor();
        CHECK.due("fault of the text at first", x.fault(), 0);
        CHECK.due("its length", x.clearText(), 0);
        CHECK.due("append to it", x.append('h'), 1);
    }

    private static void textHoldsOneHundred() {
        DOC.says(TEXT, "There is a text of at most 100 characters (empty at first), which contains "
                + "instructions:");
        BarrelProcessor x = new BarrelProcessor();
        String text = wholeText(100);
        for (int length = 1; length <= 100; length++) {
            CHECK.due("append", x.append(text.charAt(length - 1)), length);
        }
        CHECK.due("append of one more", x.append(';'), TOO_MANY);
        CHECK.due("fault of 100 characters", x.fault(), NONE);
        CHECK.due("length", x.clearText(), 100);
        CHECK.due("append to the empty text", x.append('h'), 1);
        CHECK.due("fault", x.fault(), NONE);
    }

    private static void lettersInTheirOrder() {
        DOC.says(TEXT, "These stand for SET, ADD, SUB, MUL, LOAD, STORE, SWAP, JUMP, JZ, JN, SYNC "
                + "and HALT, in this order.",
                "instruction = \"s\" r \"=\" number | \"a\" r q | \"d\" r q | \"m\" r q | \"l\" r "
                + "q | \"w\" r q | \"x\" r q | \"j\" place | \"z\" r \">\" place | \"n\" r \">\" "
                + "place | \"b\" | \"h\"");
        BarrelProcessor x = typed("s1=2;a12;d12;m12;l12;w12;x12;j3;z1>2;n1>2;b;h");
        CHECK.due("assemble", x.assemble(0), 12);
        for (int operation = 0; operation < 12; operation++) {
            CHECK.due("operation", x.operation(operation), operation);
        }
    }

    private static void registersAreZeroToThree() {
        DOC.says(TEXT, "r and q are digits from 0 to 3.");
        String[] withR = {"s?=1", "z?>1", "n?>1", "a?1", "d?1", "m?1", "l?1", "w?1", "x?1"};
        String[] withQ = {"a1?", "d1?", "m1?", "l1?", "w1?", "x1?"};
        String[] wrongs = {"4", "5", "9", "/", ":", "-", "-1", "00", " ", ";", "q"};
        for (int i = 0; i < withR.length + withQ.length; i++) {
            boolean isR = i < withR.length;
            String text = isR ? withR[i] : withQ[i - withR.length];
            for (int register = 0; register < 4; register++) {
                BarrelProcessor x = typed(text.replace("?", "" + register));
                CHECK.due("assemble of " + text, x.assemble(0), 1);
                CHECK.due("the register", x.operand(0, isR ? 0 : 1), register);
            }
            for (String wrong : wrongs) {
                int at = wrong.equals("00") ? text.indexOf('?') + 1 : text.indexOf('?');
                // After r, the digits 0 to 3 of a second one are q, and then the third is wrong.
                int isTwice = wrong.equals("00") && isR && text.length() == 3 ? 1 : 0;
                fault(text.replace("?", wrong), at + isTwice);
            }
        }
    }

    private static void numbersReachFromLowestToHighest() {
        DOC.says(TEXT, "A number is from -99 to 99: it can begin with \"-\", and has no leading "
                + "zeros;");
        for (int number = -99; number <= 99; number++) {
            BarrelProcessor x = typed("h;s2=" + number + ";h");
            CHECK.due("fault with " + number, x.fault(), NONE);
            CHECK.due("assemble", x.assemble(0), 3);
            CHECK.due("the number", x.operand(1, 1), number);
        }
        fault("s0=100", 5);
        fault("s0=999", 5);
        fault("s0=-100", 6);
        fault("s0=-990", 6);
    }

    private static void numbersThatAreNone() {
        DOC.says(TEXT, "it can begin with \"-\", and has no leading zeros;",
                "\"-0\" is not a number.");
        fault("s0=-0", 4);
        fault("s0=-0;h", 4);
        fault("s0=-01", 4);
        fault("s0=00", 4);
        fault("s0=01", 4);
        fault("s0=09;h", 4);
        fault("s0=--1", 4);
        fault("s0=+1", 3);
        fault("s0=1-", 4);
        fault("s0=;h", 3);
        fault("s0=-;h", 4);
    }

    private static void placesReachFromFirstToLast() {
        DOC.says(TEXT, "A place is a number from 0 to 47 without leading zeros.");
        String[] starts = {"j", "z0>", "n3>"};
        for (String start : starts) {
            for (int place = 0; place <= 47; place++) {
                BarrelProcessor x = typed(start + place + ";h");
                CHECK.due("assemble of " + start + place, x.assemble(0), 2);
                CHECK.due("the place", x.operand(0, start.equals("j") ? 0 : 1), place);
            }
        }
    }

    private static void placesThatAreNone() {
        DOC.says(TEXT, "A place is a number from 0 to 47 without leading zeros.");
        String[] starts = {"j", "z0>", "n3>"};
        for (String start : starts) {
            int at = start.length();
            for (int place = 48; place <= 99; place++) {
                fault(start + place, at + 1);
            }
            fault(start + "100", at + 2);
            fault(start + "470", at + 2);
            fault(start + "00", at + 1);
            fault(start + "07", at + 1);
            fault(start + "-1", at);
            fault(start + "-0", at);
            fault(start + ";", at);
        }
    }

    private static final String FIRST_CHARACTER = "The fault of the text is the index of the first "
            + "character such that no text begins with the characters up to and including it "
            + "(however long such a text is).";

    private static void faultIsTheFirstCharacterThatCannotStand() {
        DOC.says(TEXT, FIRST_CHARACTER);
        DOC.says(FAULT, "Returns the fault of the text.", "Returns the fault;");
        for (String[] beginning : BEGINNINGS) {
            followEach(beginning[0], beginning[1]);
        }
    }

    /** Each character after this beginning, alone and with a wrong one after it. */
    private static void followEach(String beginning, String followers) {
        for (char character = 32; character <= 126; character++) {
            String text = beginning + character;
            if (followers.indexOf(character) < 0) {
                fault(text, beginning.length());
                fault(text + ";q", beginning.length());
                fault(text + "0", beginning.length());
            } else {
                fault(text + "~", text.length());
                int got = typed(text).fault();
                CHECK.due("fault of '" + text + "' is NONE or its length",
                        got == NONE || got == text.length() ? 1 : 0, 1);
            }
        }
    }

    private static void faultAfterOtherInstructions() {
        DOC.says(TEXT, FIRST_CHARACTER);
        for (String[] beginning : BEGINNINGS) {
            if (!beginning[0].isEmpty()) {
                boolean isWhole = beginning[1].startsWith(";");
                fault("z3>47;" + beginning[0] + "~", 6 + beginning[0].length());
                fault("z3>47;" + beginning[0], isWhole ? NONE : 6 + beginning[0].length());
                fault("~;" + beginning[0], 0);
                fault("h;;" + beginning[0], 2);
                fault(";" + beginning[0], 0);
            }
        }
    }

    /** That no text of 100 characters begins so does not matter. */
    private static void faultDoesNotMindTheRoom() {
        DOC.says(TEXT, "(however long such a text is)");
        for (String[] beginning : BEGINNINGS) {
            int room = 100 - beginning[0].length() - 1;
            boolean isWhole = beginning[1].startsWith(";");
            fault(wholeText(room) + ";" + beginning[0], isWhole ? NONE : 100);
            if (!beginning[0].isEmpty()) {
                fault(wholeText(room - 1) + ";" + beginning[0] + "~", 99);
            }
        }
    }

    private static void faultOfATextThatIsNotComplete() {
        DOC.says(TEXT, "If there is no such character but the text is not complete (as the empty "
                + "text), the fault is the length of the text.");
        fault("", 0);
        for (String[] beginning : BEGINNINGS) {
            boolean isWhole = beginning[1].startsWith(";");
            fault(beginning[0], isWhole ? NONE : beginning[0].length());
            if (isWhole) {
                fault(beginning[0] + ";", beginning[0].length() + 1);
            }
        }
        for (int length = 2; length <= 100; length++) {
            fault(wholeText(length - 1) + ";", length);
        }
    }

    private static void noFault() {
        DOC.says(FAULT, "NONE if the text has no fault.");
        DOC.says(TEXT, "text        = instruction { \";\" instruction }");
        for (int length = 1; length <= 100; length++) {
            BarrelProcessor x = typed(wholeText(length));
            CHECK.due("fault", x.fault(), NONE);
            CHECK.due("fault asked again", x.fault(), NONE);
            CHECK.due("length", x.clearText(), length);
        }
    }

    private static void instruction(BarrelProcessor x, int place, int operation, int first,
            int second) {
        CHECK.due("operation(" + place + ")", x.operation(place), operation);
        CHECK.due("operand(" + place + ", 0)", x.operand(place, 0), first);
        CHECK.due("operand(" + place + ", 1)", x.operand(place, 1), second);
    }

    private static void assembleTakesEachPlace() {
        DOC.says(ASSEMBLE, "- `place`: 0 to 47: the place of the first instruction",
                "Returns the number of instructions;", "Puts the instructions of the text into the "
                + "program memory, one after the other.");
        for (int place = 0; place <= 47; place++) {
            BarrelProcessor x = typed(place < 47 ? "j9;b" : "j9");
            CHECK.due("assemble(" + place + ")", x.assemble(place), place < 47 ? 2 : 1);
            for (int other = 0; other <= 47; other++) {
                int operation = other == place ? 7 : other == place + 1 ? 10 : 11;
                instruction(x, other, operation, other == place ? 9 : NONE, NONE);
            }
        }
    }

    private static void assembleRefusesOtherPlaces() {
        DOC.says(ASSEMBLE, "NO_SUCH if there is no such place;");
        String[] texts = {"h", "", "s0", wholeText(99)};
        for (String text : texts) {
            for (int place : Busy.outside(0, 47)) {
                Busy.leaves(CHECK, "assemble(" + place + ") of '" + text + "'", text,
                        x -> x.assemble(place), NO_SUCH);
            }
        }
    }

    private static void assembleRefusesATextWithAFault() {
        DOC.says(ASSEMBLE, "BAD_TEXT if the text has a fault;");
        String[] texts = {"", "h;", "s0=-0", "j48", "b;b;b;q", wholeText(98) + ";q",
            wholeText(99) + ";"};
        for (String text : texts) {
            for (int place = 0; place <= 47; place += 47) {
                int first = place;
                Busy.leaves(CHECK, "assemble(" + place + ") of '" + text + "'", text,
                        x -> x.assemble(first), BAD_TEXT);
            }
        }
    }

    private static void assembleRefusesWhatDoesNotFit() {
        DOC.says(ASSEMBLE, "TOO_MANY if the last instruction would come behind the place 47.");
        for (int count = 1; count <= 50; count++) {
            String text = wholeText(2 * count - 1);
            int last = 48 - count;
            if (last >= 0) {
                CHECK.due("assemble(" + last + ") of " + count, typed(text).assemble(last), count);
            }
            if (last < 47) {
                int first = Math.max(0, last + 1);
                Busy.leaves(CHECK, "assemble(" + first + ") of " + count, text,
                        x -> x.assemble(first), TOO_MANY);
            }
        }
        BarrelProcessor x = typed("s0=-99;" + wholeText(93));
        CHECK.due("assemble(0) of 48 instructions", x.assemble(0), 48);
        instruction(x, 0, 0, 0, -99);
        instruction(x, 1, 10, NONE, NONE);
        instruction(x, 47, 11, NONE, NONE);
    }

    private static void assembleKeepsTheText() {
        DOC.says(ASSEMBLE, "The text does not change.");
        BarrelProcessor x = typed("b;j7");
        CHECK.due("assemble(0)", x.assemble(0), 2);
        CHECK.due("fault", x.fault(), NONE);
        CHECK.due("assemble(46)", x.assemble(46), 2);
        instruction(x, 46, 10, NONE, NONE);
        instruction(x, 47, 7, 7, NONE);
        CHECK.due("append", x.append('h'), 5);
        CHECK.due("fault", x.fault(), 4);
    }

    private static void appendTakesEachCharacter() {
        DOC.says(APPEND, "Appends a character to the text.", "- `character`: 32 to 126",
                "Returns the length of the text;");
        BarrelProcessor x = new BarrelProcessor();
        for (int character = 32; character <= 126; character++) {
            CHECK.due("append(" + character + ")", x.append(character), character - 31);
        }
        CHECK.due("length", x.clearText(), 95);
    }

    private static void appendRefusesOtherCharacters() {
        DOC.says(APPEND, "BAD_VALUE if character is out of range;");
        String[] texts = {"", "s0=1", wholeText(99), wholeText(100)};
        for (String text : texts) {
            for (int character : Busy.outside(32, 126)) {
                Busy.leaves(CHECK, "append(" + character + ")", text, x -> x.append(character),
                        BAD_VALUE);
            }
        }
    }

    private static void appendRefusesTheHundredAndFirst() {
        DOC.says(APPEND, "TOO_MANY if the text has 100 characters.");
        CHECK.due("append to 99 characters", typed(wholeText(99)).append('~'), 100);
        String[] texts = {wholeText(100), wholeText(99) + ";"};
        for (String text : texts) {
            for (int character = 32; character <= 126; character += 94) {
                int one = character;
                Busy.leaves(CHECK, "append to 100 characters", text, x -> x.append(one), TOO_MANY);
            }
        }
    }

    private static void clearTextOfNoneAndOfAll() {
        DOC.says(CLEAR_TEXT, "Empties the text.", "Returns the length that the text had.");
        for (int length = 1; length <= 100; length++) {
            BarrelProcessor x = typed(wholeText(length));
            CHECK.due("clearText", x.clearText(), length);
            CHECK.due("fault of the empty text", x.fault(), 0);
            CHECK.due("clearText of the empty text", x.clearText(), 0);
            CHECK.due("assemble of the empty text", x.assemble(0), BAD_TEXT);
            CHECK.due("append", x.append('h'), 1);
            CHECK.due("fault", x.fault(), NONE);
        }
    }

    private static void operationOfEachPlace() {
        DOC.says(OPERATION, "Returns the operation of an instruction.", "- `place`: 0 to 47",
                "Returns the operation, 0 to 11;");
        BarrelProcessor x = typed("s0=0;b");
        x.assemble(0);
        x.assemble(46);
        CHECK.due("operation(0)", x.operation(0), 0);
        CHECK.due("operation(1)", x.operation(1), 10);
        for (int place = 2; place < 46; place++) {
            CHECK.due("operation", x.operation(place), 11);
        }
        CHECK.due("operation(46)", x.operation(46), 0);
        CHECK.due("operation(47)", x.operation(47), 10);
    }

    private static void operationRefusesOtherPlaces() {
        DOC.says(OPERATION, "NO_SUCH if there is no such place.");
        Busy.refusesOutside(CHECK, "operation", 0, 47, (x, place) -> x.operation(place), NO_SUCH);
    }

    private static void operandsInTheirOrder() {
        DOC.says(OPERAND, "Returns an operand of an instruction.", "- `place`: 0 to 47",
                "- `operand`: 0 for the first operand, 1 for the second one, in the order in which "
                + "the instruction is written", "Returns the operand: a register, a number or a "
                + "place;");
        BarrelProcessor x = typed("s3=-99;a12;d20;m03;l31;w23;x10;j47;z2>46;n1>0");
        CHECK.due("assemble", x.assemble(38), 10);
        int[][] operands = {{3, -99}, {1, 2}, {2, 0}, {0, 3}, {3, 1}, {2, 3}, {1, 0}, {47, NONE},
            {2, 46}, {1, 0}};
        for (int i = 0; i < 10; i++) {
            instruction(x, 38 + i, i, operands[i][0], operands[i][1]);
        }
        x.assemble(0);
        instruction(x, 0, 0, 3, -99);
    }

    private static void operandRefusesOtherPlaces() {
        DOC.says(OPERAND, "NO_SUCH if there is no such place;");
        for (int operand = -1; operand <= 2; operand++) {
            int which = operand;
            Busy.refusesOutside(CHECK, "operand " + operand, 0, 47,
                    (x, place) -> x.operand(place, which), NO_SUCH);
        }
    }

    private static void operandRefusesOtherOperands() {
        DOC.says(OPERAND, "BAD_VALUE if operand is neither 0 nor 1;");
        int[] places = {0, 2, 4, 47};
        for (int place : places) {
            Busy.refusesOutside(CHECK, "operand at " + place, 0, 1,
                    (x, operand) -> x.operand(place, operand), BAD_VALUE);
        }
    }

    private static void operandThatIsNotThere() {
        DOC.says(OPERAND, "NONE if the instruction does not have this operand.");
        BarrelProcessor x = typed("j7;b;h");
        x.assemble(10);
        instruction(x, 10, 7, 7, NONE);
        instruction(x, 11, 10, NONE, NONE);
        instruction(x, 12, 11, NONE, NONE);
        instruction(x, 47, 11, NONE, NONE);
        Check.type(x, "s0=1;s0=1;s0=1");
        x.assemble(10);
        Check.type(x, "j7;b;h");
        x.assemble(10);
        instruction(x, 10, 7, 7, NONE);
        instruction(x, 11, 10, NONE, NONE);
        instruction(x, 12, 11, NONE, NONE);
        Busy.leaves(CHECK, "operand(2, 1) of SYNC", y -> y.operand(2, 1), NONE);
    }
}
