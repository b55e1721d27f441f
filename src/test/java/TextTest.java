/** The text: promises 2 (assemble), 11 (append), 12 (clearText), 13 (fault), 19, 20. */
public final class TextTest {
    private static final int NONE = BarrelProcessor.NONE;
    private static final int NO_SUCH = BarrelProcessor.NO_SUCH;
    private static final Check CHECK = new Check("TextTest");

    public static void main(String[] args) {
        appendCharacters();
        fillTheText();
        clearTheText();
        clearedCharactersAreGone();
        faultsAtTheHundredthCharacter();
        faultsOfLetters();
        faultsOfNumbers();
        faultsOfPlaces();
        assembleEachInstruction();
        assembleErrors();
        assembleAtTheEnd();
        assembleKeepsTheRest();
        askForOperations();
        CHECK.finish();
    }

    private static void appendCharacters() {
        BarrelProcessor x = new BarrelProcessor();
        CHECK.due("append(31)", x.append(31), BarrelProcessor.BAD_VALUE);
        CHECK.due("append(127)", x.append(127), BarrelProcessor.BAD_VALUE);
        CHECK.due("append(-1)", x.append(-1), BarrelProcessor.BAD_VALUE);
        CHECK.due("append('h' + 65536)", x.append('h' + 65536), BarrelProcessor.BAD_VALUE);
        CHECK.due("append of the least int", x.append(Integer.MIN_VALUE),
                BarrelProcessor.BAD_VALUE);
        CHECK.due("append(32)", x.append(32), 1);
        CHECK.due("append(126)", x.append(126), 2);
        CHECK.due("fault()", x.fault(), 0);
        CHECK.due("append is no action: undo()", x.undo(), NONE);
    }

    private static void fillTheText() {
        BarrelProcessor x = new BarrelProcessor();
        for (int i = 0; i < 100; i++) {
            CHECK.due("append", x.append(i % 2 == 0 ? 'h' : ';'), i + 1);
        }
        CHECK.due("append to a full text", x.append('h'), BarrelProcessor.TOO_MANY);
        CHECK.due("a wrong append to a full text", x.append(127), BarrelProcessor.BAD_VALUE);
        CHECK.due("fault of 50 instructions and ;", x.fault(), 100);
        CHECK.due("assemble", x.assemble(0), BarrelProcessor.BAD_TEXT);
        CHECK.due("clearText", x.clearText(), 100);
        CHECK.due("append after clearText", x.append('b'), 1);
    }

    private static void clearTheText() {
        BarrelProcessor x = new BarrelProcessor();
        CHECK.due("clearText of an empty text", x.clearText(), 0);
        Check.type(x, "b;h");
        CHECK.due("fault", x.fault(), NONE);
        CHECK.due("clearText", x.clearText(), 3);
        CHECK.due("fault of the cleared text", x.fault(), 0);
        CHECK.due("clearText once more", x.clearText(), 0);
        CHECK.due("clearText is no action: undo()", x.undo(), NONE);
    }

    private static void fault(String text, int want) {
        BarrelProcessor x = new BarrelProcessor();
        Check.type(x, text);
        CHECK.due("fault of '" + text + "'", x.fault(), want);
        CHECK.due("fault of '" + text + "' asked again", x.fault(), want);
    }

    private static void clearedCharactersAreGone() {
        String[] whole = {"s0=5", "s1=-7", "s2=12", "a01", "z0>5", "n1>45", "j12", "h;b"};
        int[] alsoWholeAt = {-1, -1, 4, -1, -1, 4, 2, 1};
        for (int i = 0; i < whole.length; i++) {
            BarrelProcessor x = new BarrelProcessor();
            for (int length = whole[i].length() - 1; length >= 0; length--) {
                Check.type(x, whole[i]);
                CHECK.due("fault of '" + whole[i] + "'", x.fault(), NONE);
                Check.type(x, whole[i].substring(0, length));
                CHECK.due("fault of '" + whole[i] + "' cut to " + length, x.fault(),
                        length == alsoWholeAt[i] ? NONE : length);
            }
        }
    }

    private static void faultsAtTheHundredthCharacter() {
        String[] ends = {"s", "s0", "s0=", "s0=-", "a", "a0", "j", "z", "z0", "n0>", "h;", "j4",
            "s0=1", "s0=-1", "z0>4", "a00"};
        for (String end : ends) {
            BarrelProcessor x = new BarrelProcessor();
            int filled = 100 - end.length();
            String start = filled % 2 == 0 ? "" : "j1;";
            while (start.length() < filled) {
                start = start + "h;";
            }
            Check.type(x, start + end);
            boolean isWhole = end.matches(".*[0-9]") && !end.matches("[aszn].?");
            CHECK.due("fault of a text that ends in " + end, x.fault(), isWhole ? NONE : 100);
            CHECK.due("its length", x.clearText(), 100);
        }
    }

    private static void faultsOfLetters() {
        fault("", 0);
        fault(" ", 0);
        fault("q", 0);
        fault("H", 0);
        fault(";", 0);
        fault("h", NONE);
        fault("b", NONE);
        fault("h;", 2);
        fault("h;;", 2);
        fault("h ;b", 1);
        fault("hh", 1);
        fault("h;b;h", NONE);
        fault("h;b;k", 4);
        String[] pairs = {"a", "d", "m", "l", "w", "x"};
        for (String letter : pairs) {
            fault(letter, 1);
            fault(letter + "0", 2);
            fault(letter + "4", 1);
            fault(letter + "04", 2);
            fault(letter + "33", NONE);
            fault(letter + "333", 3);
            fault(letter + "3;", 2);
            fault(letter + "-", 1);
        }
    }

    private static void faultsOfNumbers() {
        fault("s", 1);
        fault("s3", 2);
        fault("s4=1", 1);
        fault("s0>1", 2);
        fault("s0=", 3);
        fault("s0=-", 4);
        fault("s0=--1", 4);
        fault("s0=+1", 3);
        fault("s0=0", NONE);
        fault("s0=00", 4);
        fault("s0=01", 4);
        fault("s0=-0", 4);
        fault("s0=-01", 4);
        fault("s0=-1", NONE);
        fault("s0=9", NONE);
        fault("s0=10", NONE);
        fault("s0=99", NONE);
        fault("s0=-99", NONE);
        fault("s0=100", 5);
        fault("s0=-100", 6);
        fault("s0=5;", 5);
        fault("s0=:", 3);
        fault("s0=/", 3);
        fault("s0=1:", 4);
    }

    private static void faultsOfPlaces() {
        String[] starts = {"j", "z0>", "n3>"};
        for (String start : starts) {
            int at = start.length();
            fault(start, at);
            fault(start + "-", at);
            fault(start + "0", NONE);
            fault(start + "00", at + 1);
            fault(start + "4", NONE);
            fault(start + "5", NONE);
            fault(start + "9", NONE);
            fault(start + "10", NONE);
            fault(start + "39", NONE);
            fault(start + "47", NONE);
            fault(start + "48", at + 1);
            fault(start + "49", at + 1);
            fault(start + "50", at + 1);
            fault(start + "470", at + 2);
            fault(start + "100", at + 2);
            fault(start + "7;h", NONE);
        }
        fault("z", 1);
        fault("z4>1", 1);
        fault("z0=1", 2);
        fault("n0", 2);
        fault("n0>x", 3);
    }

    private static void instruction(BarrelProcessor x, int place, int operation, int first,
            int second) {
        CHECK.due("operation(" + place + ")", x.operation(place), operation);
        CHECK.due("operand(" + place + ", 0)", x.operand(place, 0), first);
        CHECK.due("operand(" + place + ", 1)", x.operand(place, 1), second);
    }

    private static void assembleEachInstruction() {
        BarrelProcessor x = new BarrelProcessor();
        Check.type(x, "s1=-99;a01;d12;m23;l30;w02;x13;j47;z2>0;n3>46;b;h;s3=0;s0=10;j4");
        CHECK.due("assemble(2)", x.assemble(2), 15);
        instruction(x, 1, 11, NONE, NONE);
        instruction(x, 2, 0, 1, -99);
        instruction(x, 3, 1, 0, 1);
        instruction(x, 4, 2, 1, 2);
        instruction(x, 5, 3, 2, 3);
        instruction(x, 6, 4, 3, 0);
        instruction(x, 7, 5, 0, 2);
        instruction(x, 8, 6, 1, 3);
        instruction(x, 9, 7, 47, NONE);
        instruction(x, 10, 8, 2, 0);
        instruction(x, 11, 9, 3, 46);
        instruction(x, 12, 10, NONE, NONE);
        instruction(x, 13, 11, NONE, NONE);
        instruction(x, 14, 0, 3, 0);
        instruction(x, 15, 0, 0, 10);
        instruction(x, 16, 7, 4, NONE);
        instruction(x, 17, 11, NONE, NONE);
        CHECK.due("the text stays", x.fault(), NONE);
        CHECK.due("assemble again", x.assemble(33), 15);
        instruction(x, 47, 7, 4, NONE);
        CHECK.due("the text stays", x.clearText(), 63);
    }

    private static void assembleErrors() {
        BarrelProcessor x = new BarrelProcessor();
        CHECK.due("assemble(-1) of no text", x.assemble(-1), NO_SUCH);
        CHECK.due("assemble(48) of no text", x.assemble(48), NO_SUCH);
        CHECK.due("assemble(0) of no text", x.assemble(0), BarrelProcessor.BAD_TEXT);
        Check.type(x, "b;b;b;");
        CHECK.due("assemble(46) of a wrong text", x.assemble(46), BarrelProcessor.BAD_TEXT);
        Check.type(x, "b;b;b");
        CHECK.due("assemble(46)", x.assemble(46), BarrelProcessor.TOO_MANY);
        CHECK.due("assemble of the greatest int", x.assemble(Integer.MAX_VALUE), NO_SUCH);
        CHECK.dueText("the state", Check.stateOf(x), Check.stateOf(new BarrelProcessor()));
        CHECK.due("errors are not recorded: undo()", x.undo(), NONE);
        CHECK.due("assemble(45)", x.assemble(45), 3);
        CHECK.due("operation(45)", x.operation(45), 10);
        CHECK.due("undo()", x.undo(), 0);
        CHECK.due("operation(45)", x.operation(45), 11);
        CHECK.due("undo keeps the text", x.fault(), NONE);
    }

    private static String repeated(String piece, int times) {
        StringBuilder text = new StringBuilder(piece);
        for (int i = 1; i < times; i++) {
            text.append(';').append(piece);
        }
        return text.toString();
    }

    private static void assembleAtTheEnd() {
        BarrelProcessor x = new BarrelProcessor();
        Check.type(x, repeated("b", 48));
        CHECK.due("assemble(1) of 48", x.assemble(1), BarrelProcessor.TOO_MANY);
        CHECK.due("assemble(0) of 48", x.assemble(0), 48);
        CHECK.due("operation(0)", x.operation(0), 10);
        CHECK.due("operation(47)", x.operation(47), 10);
        Check.type(x, repeated("h", 49));
        CHECK.due("assemble(0) of 49", x.assemble(0), BarrelProcessor.TOO_MANY);
        Check.type(x, repeated("h", 50));
        CHECK.due("fault of 50", x.fault(), NONE);
        CHECK.due("assemble(0) of 50", x.assemble(0), BarrelProcessor.TOO_MANY);
        CHECK.due("operation(0)", x.operation(0), 10);
        Check.type(x, "h");
        CHECK.due("assemble(47)", x.assemble(47), 1);
        CHECK.due("operation(46)", x.operation(46), 10);
        CHECK.due("operation(47)", x.operation(47), 11);
    }

    private static void assembleKeepsTheRest() {
        BarrelProcessor x = Check.with("s0=1;s1=2;s2=3;s3=4");
        x.setBreakpoint(1, true);
        Check.type(x, "b;j5");
        CHECK.due("assemble(1)", x.assemble(1), 2);
        instruction(x, 0, 0, 0, 1);
        instruction(x, 1, 10, NONE, NONE);
        instruction(x, 2, 7, 5, NONE);
        instruction(x, 3, 0, 3, 4);
        CHECK.due("the breakpoint stays", x.breakpoint(1), 1);
        Check.type(x, "a");
        CHECK.due("assemble of a wrong text", x.assemble(0), BarrelProcessor.BAD_TEXT);
        instruction(x, 0, 0, 0, 1);
    }

    private static void askForOperations() {
        BarrelProcessor x = new BarrelProcessor();
        for (int place = 0; place < 48; place++) {
            instruction(x, place, 11, NONE, NONE);
        }
        CHECK.due("operation(-1)", x.operation(-1), NO_SUCH);
        CHECK.due("operation(48)", x.operation(48), NO_SUCH);
        CHECK.due("operand(-1, 0)", x.operand(-1, 0), NO_SUCH);
        CHECK.due("operand(48, 0)", x.operand(48, 0), NO_SUCH);
        CHECK.due("operand(48, 2)", x.operand(48, 2), NO_SUCH);
        CHECK.due("operand(0, 2)", x.operand(0, 2), BarrelProcessor.BAD_VALUE);
        CHECK.due("operand(0, -1)", x.operand(0, -1), BarrelProcessor.BAD_VALUE);
        CHECK.due("operand of the greatest ints",
                x.operand(Integer.MAX_VALUE, Integer.MAX_VALUE), NO_SUCH);
    }
}
