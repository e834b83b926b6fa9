/**
 * The promises: each sentence that names a boundary case has a test of its own. The words above a test are the
 * document's.
 */
public final class BoundaryTest {
    private static final Due DUE = new Due();
    private static final int[] FAR = {Integer.MIN_VALUE, Integer.MIN_VALUE + 1, Integer.MAX_VALUE - 1, Integer.MAX_VALUE};

    private static final String VALUE = "{$(\\x:i.x 7)+!@1}";
    private static final String BLAME = "{$(\\x:i.x 7)+{!@1+<T:?>}}";
    // With fuel 1.
    private static final String NO_FUEL = "{$(\\x:i.x 7)+{!@1+(\\x:i.x 1)}}";
    // With fuel 40: five cells in each round.
    private static final String NO_ROOM = "(\\x:?.(x x) \\x:?.[{$!@!@!@!@!@7<0}?x:(x x)])";

    public static void main(String[] args) {
        newObjectHasAnEmptyText();
        newObjectHasNoProgram();
        writeTakesBytesFromTheHighestOn();
        writeLeavesOutThoseThatAre0();
        writeRefusesOtherCodes();
        writeRefusesMoreThanThereIsRoomFor();
        textBecomesTheProgram();
        textIsEmptyThen();
        noExpression();
        noExpressionByWhatIsTooDeep();
        errorIsFound();
        textIsEmptyAndThereIsNoProgram();
        nothingHasBeenRun();
        positionOfTheError();
        positionOtherwise();
        characterOfTheType();
        typeWithoutProgram();
        noSuchCharacter();
        runFromItsBeginning();
        fuelFrom0To40();
        runEndings();
        runWithoutProgram();
        runWithOtherFuel();
        resultKinds();
        resultNumbers();
        resultTags();
        noResult();
        noSuchPartOfTheResult();
        blamedLabelAndSide();
        blamedOtherwise();
        outputsBeforeTheLatest();
        noSuchOutput();
        outputOutside0To15();
        howManyOutputs();
        callsOfTheLatestRun();
        noCalls();
        cellsOfTheLatestRun();
        noCells();
        anyArguments();
        DUE.end();
    }

    private static BlameDesk ran(String text, int fuel, int ending) {
        BlameDesk desk = Due.desk(text);
        DUE.is("run(" + fuel + ") of " + text, desk.run(fuel), ending);
        return desk;
    }

    private static BlameDesk checked(String text, int answer) {
        BlameDesk desk = new BlameDesk();
        DUE.is("check of '" + text + "'", Due.check(desk, text), answer);
        return desk;
    }

    /** Everything that can be asked without a change, in one text. */
    private static String state(BlameDesk desk) {
        StringBuilder state = new StringBuilder("position " + desk.position() + " type");
        for (int k = -1; k < 20; k++) {
            state.append(' ').append(desk.type(k));
        }
        return state + " " + latestRun(desk);
    }

    private static String latestRun(BlameDesk desk) {
        StringBuilder run = new StringBuilder("result");
        for (int what = -1; what < 4; what++) {
            run.append(' ').append(desk.result(what));
        }
        run.append(" blamed ").append(desk.blamed()).append(" outputs");
        for (int k = -2; k < 17; k++) {
            run.append(' ').append(desk.output(k));
        }
        return run + " calls " + desk.calls() + " stored " + desk.stored();
    }

    private static void same(String what, String got, String due) {
        DUE.is(what + ": " + got + ", due is " + due, got.equals(due), true);
    }

    // Promise 1

    // "An empty text ..."
    private static void newObjectHasAnEmptyText() {
        DUE.is("check of a new object", new BlameDesk().check(), 1);
        BlameDesk desk = new BlameDesk();
        DUE.is("100 characters into a new object", Due.write(desk, Due.FULL_TEXT), true);
        DUE.is("check of those 100", desk.check(), 0);
    }

    // "... no program."
    private static void newObjectHasNoProgram() {
        BlameDesk desk = new BlameDesk();
        DUE.is("type of a new object", desk.type(0), -1);
        DUE.is("run of a new object", desk.run(0), -1);
        DUE.is("position of a new object", desk.position(), -1);
        for (int what = 0; what <= 2; what++) {
            DUE.is("result of a new object", desk.result(what), -1);
        }
        DUE.is("blamed of a new object", desk.blamed(), -1);
        DUE.is("output of a new object", desk.output(0), 0);
        DUE.is("outputs of a new object", desk.output(-1), 0);
        DUE.is("calls of a new object", desk.calls(), 0);
        DUE.is("stored of a new object", desk.stored(), 0);
    }

    // Promise 2

    // "Appends up to eight characters to the text, the codes of which are the eight bytes of w from the highest on ..."
    private static void writeTakesBytesFromTheHighestOn() {
        BlameDesk desk = new BlameDesk();
        DUE.is("write of eight", desk.write(Due.packed("{100-{20")), true);
        DUE.is("write of four", desk.write(Due.packed("-3}}")), true);
        DUE.is("check of both", desk.check(), 0);
        desk.run(0);
        DUE.is("result of both", desk.result(1), 83);
        DUE.is("the lowest code in all eight", new BlameDesk().write(0x2020202020202020L), true);
        DUE.is("the highest code in all eight", new BlameDesk().write(0x7e7e7e7e7e7e7e7eL), true);
    }

    // "... but for those that are 0: true."
    private static void writeLeavesOutThoseThatAre0() {
        BlameDesk desk = new BlameDesk();
        DUE.is("write of nothing", desk.write(0), true);
        for (int shift = 0; shift < 64; shift += 8) {
            DUE.is("write of one at " + shift, desk.write((long) '$' << shift), true);
        }
        DUE.is("write with gaps", desk.write(0x7b00370000002d00L), true);
        DUE.is("write with gaps", desk.write(0x0033000000007d00L), true);
        DUE.is("write of nothing", desk.write(0), true);
        DUE.is("check", desk.check(), 0);
        desk.run(0);
        DUE.is("result", desk.result(1), 4);
        DUE.is("outputs", desk.output(-1), 8);
        BlameDesk full = new BlameDesk();
        Due.write(full, Due.FULL_TEXT);
        DUE.is("write of nothing where there is no room", full.write(0), true);
    }

    // "False, changing nothing, if one of the others is not 32 .. 126 ..."
    private static void writeRefusesOtherCodes() {
        for (int code : new int[] {1, 9, 31, 127, 128, 160, 254, 255}) {
            BlameDesk desk = new BlameDesk();
            Due.write(desk, "{1+");
            for (int shift = 0; shift < 64; shift += 8) {
                long wrong = (long) code << shift;
                long beside = 0x3131313131313131L & ~(255L << shift);
                DUE.is("write of code " + code + " at " + shift, desk.write(wrong), false);
                DUE.is("write of code " + code + " at " + shift + " beside others", desk.write(wrong | beside), false);
            }
            Due.write(desk, "2}");
            DUE.is("check behind writes refused", desk.check(), 0);
            desk.run(0);
            DUE.is("result behind writes refused", desk.result(1), 3);
        }
        DUE.is("write(-1)", new BlameDesk().write(-1), false);
        DUE.is("write of the smallest", new BlameDesk().write(Long.MIN_VALUE), false);
        DUE.is("write of the greatest", new BlameDesk().write(Long.MAX_VALUE), false);
    }

    // "... or they are more than there is room for."
    private static void writeRefusesMoreThanThereIsRoomFor() {
        for (int room = 0; room <= 8; room++) {
            for (int many = 1; many <= 8; many++) {
                BlameDesk desk = new BlameDesk();
                Due.write(desk, Due.FULL_TEXT.substring(0, 100 - room));
                String more = many <= room ? Due.FULL_TEXT.substring(100 - room, 100 - room + many) : "1".repeat(many);
                DUE.is("write of " + many + " into room for " + room, desk.write(Due.packed(more)), many <= room);
                int written = 100 - room + (many <= room ? many : 0);
                DUE.is("write of the rest", Due.write(desk, Due.FULL_TEXT.substring(written)), true);
                DUE.is("check of all", desk.check(), 0);
                desk.run(0);
                DUE.is("result of all", desk.result(1), 17 * 999);
            }
        }
        BlameDesk desk = new BlameDesk();
        Due.write(desk, Due.FULL_TEXT.substring(0, 99));
        DUE.is("zeros take no room", desk.write((long) '}' << 56), true);
    }

    // Promise 3

    // "The text becomes the program ...: 0."
    private static void textBecomesTheProgram() {
        BlameDesk desk = checked("7", 0);
        Due.write(desk, "<T:?>");
        DUE.is("a text alone is no program", desk.type(0), 'i');
        desk.run(0);
        DUE.is("the program is run, not the text", desk.result(1), 7);
        DUE.is("check of the second text", desk.check(), 0);
        DUE.is("type of the second program", desk.type(0), '?');
        desk.run(0);
        DUE.is("result of the second program", desk.result(0), 1);
    }

    // "... and is empty then ..."
    private static void textIsEmptyThen() {
        BlameDesk desk = checked(Due.FULL_TEXT, 0);
        DUE.is("100 characters into the text emptied", Due.write(desk, Due.FULL_TEXT), true);
        DUE.is("check of those 100", desk.check(), 0);
        DUE.is("check of the text emptied", desk.check(), 1);
        DUE.is("no program behind that", desk.run(0), -1);
        // Nothing of a longer text before it is read.
        BlameDesk shorter = checked("{12+345}", 0);
        for (String text : new String[] {"{12+345", "{12+34", "{12+", "{12", "{"}) {
            DUE.is("check of '" + text + "' behind longer ones", Due.check(shorter, text), 1);
        }
        DUE.is("check of '345'", Due.check(shorter, "345"), 0);
        DUE.is("check of '6' behind '345'", Due.check(shorter, "6"), 0);
        shorter.run(0);
        DUE.is("result of '6' behind '345'", shorter.result(1), 6);
    }

    // "If it is no expression ...: 1"
    private static void noExpression() {
        String[] whole = {"\\x:(i>&?).y", "(x y)", "(x=y)", "{x+y}", "{x-y}", "{x<y}", "[x?y:z]", "@x", "!x", "<x:(i>b)>", "$x"};
        checked("", 1);
        for (String text : whole) {
            checked(text, 2);
            for (int length = 1; length < text.length(); length++) {
                checked(text.substring(0, length), 1);
            }
            for (String more : new String[] {"x", "1", "T", ")", "}", "]", ">", " ", "=", "+", ":", "?", "$", "~"}) {
                checked(text + more, 1);
            }
        }
        checked("TF", 1);
        checked("1T", 1);
        checked("1234", 1);
        // What is no expression comes before what is an error.
        checked("(x y", 1);
        checked("{T+F}}", 1);
        // As long a text as there can be, whole and not whole.
        for (String end : new String[] {"7", "99", "999", "T", "@1", "<1:?>", "[T?1:2]"}) {
            DUE.is("length of " + full(end), full(end).length(), 100);
            checked(full(end), 0);
        }
        for (String end : new String[] {"\\", "\\x", "\\x:", "\\x:i", "\\x:i.", "\\x:&", "\\x:(", "\\x:(i", "\\x:(i>", "(1", "(1 ", "(1 2", "(@1=", "{",
            "{1", "{1+", "{1+2", "[", "[T", "[T?", "[T?1", "[T?1:", "[T?1:2", "@", "!", "$", "<", "<1", "<1:", "<1:?"}) {
            checked(full(end), 1);
        }
    }

    /** A text of 100 characters that ends so: functions around it. */
    private static String full(String end) {
        return "\\a:" + "&".repeat(15 - end.length()) + "i." + "\\a:i.".repeat(16) + end;
    }

    // "... (also by what is too deep) ..."
    private static void noExpressionByWhatIsTooDeep() {
        checked("$".repeat(19) + "1", 0);
        checked("$".repeat(20) + "1", 1);
        checked("$".repeat(99) + "1", 1);
        checked("$".repeat(19) + "x", 2);
        checked("$".repeat(20) + "x", 1);
        checked("\\x:" + "&".repeat(18) + "i.x", 0);
        checked("\\x:" + "&".repeat(19) + "i.x", 1);
        checked("(".repeat(100), 1);
        checked("\\x:" + "(".repeat(97), 1);
    }

    // "... if an error is found: 2 ..."
    private static void errorIsFound() {
        for (String text : new String[] {"x", "(1 2)", "(1=2)", "{T+1}", "{1-T}", "{T<1}", "[1?2:3]", "[T?1:F]", "!1", "<1:b>", "$T"}) {
            checked(text, 2);
        }
    }

    // "... the text is empty, and there is no program, then, too."
    private static void textIsEmptyAndThereIsNoProgram() {
        for (String text : new String[] {"", "1 ", Due.FULL_TEXT.substring(0, 99) + "1"}) {
            leavesNothing(text, 1);
        }
        for (String text : new String[] {"x", "{T+F}", Due.FULL_TEXT_WITH_ERROR}) {
            leavesNothing(text, 2);
        }
    }

    private static void leavesNothing(String text, int answer) {
        BlameDesk desk = checked(VALUE, 0);
        DUE.is("check of '" + text + "'", Due.check(desk, text), answer);
        DUE.is("type behind '" + text + "'", desk.type(0), -1);
        DUE.is("run behind '" + text + "'", desk.run(40), -1);
        DUE.is("100 characters behind '" + text + "'", Due.write(desk, Due.FULL_TEXT), true);
        DUE.is("check of 100 characters behind '" + text + "'", desk.check(), 0);
    }

    // "Nothing has been run, nothing put out."
    private static void nothingHasBeenRun() {
        String none = latestRun(new BlameDesk());
        String[] before = {VALUE, BLAME, NO_FUEL, NO_ROOM};
        for (int i = 0; i < before.length; i++) {
            for (String text : new String[] {"1", "", "1 ", "x"}) {
                BlameDesk desk = ran(before[i], i == 2 ? 1 : 40, i + 1);
                DUE.is("something was run", latestRun(desk).equals(none), false);
                Due.check(desk, text);
                same("the latest run behind check of '" + text + "'", latestRun(desk), none);
            }
        }
    }

    // Promise 4

    // "The position of the error if check answered 2 at last ..."
    private static void positionOfTheError() {
        DUE.is("position in x", checked("x", 2).position(), 0);
        DUE.is("position in {1+T}", checked("{1+T}", 2).position(), 3);
        BlameDesk desk = checked("{1+T}", 2);
        Due.write(desk, "1");
        desk.write(-1);
        desk.run(0);
        DUE.is("position behind a write and a run refused", desk.position(), 3);
        Due.write(desk, "+T}");
        DUE.is("check of another text", desk.check(), 1);
        Due.check(desk, "$T");
        DUE.is("position of another error", desk.position(), 1);
    }

    // "... NONE otherwise."
    private static void positionOtherwise() {
        DUE.is("position of a new object", new BlameDesk().position(), -1);
        for (String text : new String[] {"1", "", "1 "}) {
            BlameDesk desk = checked("{1+T}", 2);
            Due.check(desk, text);
            DUE.is("position behind '" + text + "'", desk.position(), -1);
            desk.run(40);
            DUE.is("position behind a run of '" + text + "'", desk.position(), -1);
        }
        DUE.is("position behind blame", ran(BLAME, 40, 2).position(), -1);
    }

    // Promise 5

    // "The code of character k of the program's type, as types are written ..."
    private static void characterOfTheType() {
        hasType("1", "i");
        hasType("T", "b");
        hasType("<T:?>", "?");
        hasType("@@1", "&&i");
        hasType("\\x:i.T", "(i>b)");
        hasType("\\x:(?>&b).\\y:&(i>i).@x", "((?>&b)>(&(i>i)>&(?>&b)))");
        // As high as a type can be.
        hasType("\\x:" + "&".repeat(18) + "i." + "@".repeat(18) + "x", "(" + "&".repeat(18) + "i>" + "&".repeat(36) + "i)");
        // Longer than any text.
        String part = "(i>".repeat(9) + "(?>b)" + ")".repeat(9);
        String type = "(" + part + ">" + part + ")";
        hasType("\\x:" + type + ".x", "(" + type + ">" + type + ")");
    }

    private static void hasType(String text, String type) {
        BlameDesk desk = checked(text, 0);
        for (int k = 0; k < type.length(); k++) {
            DUE.is("type(" + k + ") of " + text, desk.type(k), type.charAt(k));
        }
        DUE.is("type(" + type.length() + ") of " + text, desk.type(type.length()), -1);
    }

    // "NONE if there is no program ..."
    private static void typeWithoutProgram() {
        DUE.is("type of a new object", new BlameDesk().type(0), -1);
        BlameDesk written = new BlameDesk();
        Due.write(written, "1");
        DUE.is("type of a text that is not checked", written.type(0), -1);
        for (String text : new String[] {"", "1 ", "x", "{T+1}", "<1:b>"}) {
            BlameDesk desk = checked("\\x:i.x", 0);
            Due.check(desk, text);
            for (int k = -1; k < 6; k++) {
                DUE.is("type(" + k + ") behind '" + text + "'", desk.type(k), -1);
            }
        }
    }

    // "... or no such character."
    private static void noSuchCharacter() {
        String[][] texts = {{"1", "i"}, {"<1:?>", "?"}, {"\\x:i.x", "(i>i)"}, {"@1", "&i"}, {"@\\x:b.@x", "&(b>&b)"}};
        for (String[] text : texts) {
            BlameDesk desk = checked(text[0], 0);
            int length = text[1].length();
            DUE.is("the last character of " + text[1], desk.type(length - 1), text[1].charAt(length - 1));
            for (int k : new int[] {-2, -1, length, length + 1, length + 2, 100, 1000}) {
                DUE.is("type(" + k + ") of " + text[0], desk.type(k), -1);
            }
            for (int k : FAR) {
                DUE.is("type(" + k + ") of " + text[0], desk.type(k), -1);
            }
        }
    }

    // Promise 6

    // "Runs the program from its beginning ..."
    private static void runFromItsBeginning() {
        String[] texts = {VALUE, BLAME, NO_FUEL, NO_ROOM};
        for (String text : texts) {
            BlameDesk desk = Due.desk(text);
            int ending = desk.run(40);
            String first = latestRun(desk);
            desk.run(1);
            for (int i = 0; i < 3; i++) {
                DUE.is("run again of " + text, desk.run(40), ending);
                same("run again of " + text, latestRun(desk), first);
            }
        }
    }

    // "... with so much fuel (0 .. 40) ..."
    private static void fuelFrom0To40() {
        BlameDesk desk = Due.desk("(\\x:?.(x x) \\x:?.(x x))");
        for (int fuel = 0; fuel <= 40; fuel++) {
            DUE.is("run(" + fuel + ")", desk.run(fuel), 3);
            DUE.is("calls of run(" + fuel + ")", desk.calls(), fuel);
        }
    }

    // "... 1 it ended with a value, 2 with blame, 3 without fuel, 4 without room."
    private static void runEndings() {
        ran(VALUE, 40, 1);
        ran(BLAME, 40, 2);
        ran(NO_FUEL, 1, 3);
        ran(NO_ROOM, 40, 4);
    }

    // "NONE, and all is as it was, if there is no program ..."
    private static void runWithoutProgram() {
        BlameDesk desk = new BlameDesk();
        Due.write(desk, "{1+");
        String before = state(desk);
        DUE.is("run without a program", desk.run(40), -1);
        same("all behind a run without a program", state(desk), before);
        Due.write(desk, "T}");
        DUE.is("check of the text behind it", desk.check(), 2);
        before = state(desk);
        DUE.is("run behind an error", desk.run(40), -1);
        same("all behind a run behind an error", state(desk), before);
        Due.check(desk, "1 ");
        DUE.is("run behind no expression", desk.run(40), -1);
    }

    // "... or fuel is not so."
    private static void runWithOtherFuel() {
        String[] texts = {VALUE, BLAME, NO_FUEL, NO_ROOM};
        for (int i = 0; i < texts.length; i++) {
            BlameDesk desk = Due.desk(texts[i]);
            refusesOtherFuel(desk, "before a run of " + texts[i]);
            DUE.is("run of " + texts[i], desk.run(i == 2 ? 1 : 40), i + 1);
            refusesOtherFuel(desk, "behind a run of " + texts[i]);
            Due.write(desk, "{1+");
            refusesOtherFuel(desk, "behind a write");
            Due.write(desk, "2}");
            DUE.is("check of the text behind it", desk.check(), 0);
        }
    }

    private static void refusesOtherFuel(BlameDesk desk, String when) {
        String before = state(desk);
        for (int fuel : new int[] {-40, -2, -1, 41, 42, 256, Integer.MIN_VALUE, Integer.MAX_VALUE}) {
            DUE.is("run(" + fuel + ") " + when, desk.run(fuel), -1);
        }
        same("all " + when, state(desk), before);
    }

    // Promise 7

    // "what 0: 0 a number, 1 a boolean, 2 a function, 3 a cell (a tagged value is what is tagged)"
    private static void resultKinds() {
        String[][] texts = {
            {"0", "7", "{1-2}", "<0:?>", "!@1", "$1"},
            {"T", "F", "{1<2}", "<F:?>"},
            {"\\x:i.x", "<\\x:i.x:(?>?)>", "<\\x:i.x:?>", "<\\x:?.x:?>"},
            {"@1", "<@1:&?>", "<@1:?>", "<@<1:?>:?>", "@\\x:i.x"},
        };
        for (int kind = 0; kind < texts.length; kind++) {
            for (String text : texts[kind]) {
                DUE.is("result(0) of " + text, ran(text, 0, 1).result(0), kind);
            }
        }
    }

    // "1: the number, 1 for true, 0 for false, 0 for the others"
    private static void resultNumbers() {
        result1("0", 0);
        result1("999", 999);
        result1("{0-999}", -999);
        result1("<{0-1}:?>", -1);
        result1("T", 1);
        result1("F", 0);
        result1("<T:?>", 1);
        result1("<F:?>", 0);
        // The second cell, and a function that is not the first.
        result1("[{5<!@6}?@5:@6]", 0);
        result1("[T?\\x:i.5:\\x:i.6]", 0);
        result1("<\\x:i.x:(?>?)>", 0);
        result1("<<@5:&?>:&i>", 0);
        result1("<@5:?>", 0);
        result1("<\\x:i.5:?>", 0);
    }

    private static void result1(String text, int number) {
        DUE.is("result(1) of " + text, ran(text, 40, 1).result(1), number);
    }

    // "2: whether it is tagged (1 or 0)"
    private static void resultTags() {
        for (String value : new String[] {"0", "F", "\\x:i.x", "\\x:?.x", "@1", "@<1:?>"}) {
            DUE.is("result(2) of " + value, ran(value, 0, 1).result(2), 0);
            DUE.is("result(2) of " + value + " tagged", ran("<" + value + ":?>", 0, 1).result(2), 1);
            DUE.is("result(2) of " + value + " tagged twice", ran("<<" + value + ":?>:?>", 0, 1).result(2), 1);
        }
        DUE.is("result(2) of a tag taken off", ran("<<1:?>:i>", 0, 1).result(2), 0);
    }

    // "NONE if there is none ..."
    private static void noResult() {
        hasNoResult("a new object", new BlameDesk());
        hasNoResult("before a run", Due.desk("1"));
        hasNoResult("blame", ran(BLAME, 40, 2));
        hasNoResult("no fuel", ran(NO_FUEL, 1, 3));
        hasNoResult("no room", ran(NO_ROOM, 40, 4));
        BlameDesk desk = ran("(\\x:i.x 7)", 1, 1);
        DUE.is("result with fuel", desk.result(1), 7);
        desk.run(0);
        hasNoResult("no fuel behind a run with a value", desk);
        desk.run(1);
        DUE.is("result with fuel again", desk.result(1), 7);
        Due.check(desk, "8");
        hasNoResult("behind a check", desk);
    }

    private static void hasNoResult(String when, BlameDesk desk) {
        for (int what = -1; what <= 3; what++) {
            DUE.is("result(" + what + ") of " + when, desk.result(what), -1);
        }
    }

    // "... or what is none of these."
    private static void noSuchPartOfTheResult() {
        BlameDesk desk = ran("7", 0, 1);
        for (int what : new int[] {-2, -1, 3, 4, 256}) {
            DUE.is("result(" + what + ")", desk.result(what), -1);
        }
        for (int what : FAR) {
            DUE.is("result(" + what + ")", desk.result(what), -1);
        }
    }

    // Promise 8

    // "If the latest run ended with 2: the label blamed, twice, and 1 if on its other side."
    private static void blamedLabelAndSide() {
        blames("<<1:?>:b>", 0);
        blames("@<<1:?>:b>", 2);
        blames("(<\\x:i.x:(?>i)> T)", 3);
        blames("(<@1:&?>=T)", 3);
        // A cast at 0 can blame on its other side, too.
        blames("(\\c:&?.(c=T) @1)", 1);
        String near = "[F?" + "{999+".repeat(14) + "99" + "}".repeat(14) + ":<<T:?>:i>]";
        blames(near, 180);
    }

    private static void blames(String text, int due) {
        DUE.is("blamed of " + text, ran(text, 40, 2).blamed(), due);
    }

    // "NONE otherwise."
    private static void blamedOtherwise() {
        DUE.is("blamed of a new object", new BlameDesk().blamed(), -1);
        DUE.is("blamed before a run", Due.desk(BLAME).blamed(), -1);
        DUE.is("blamed with a value", ran(VALUE, 40, 1).blamed(), -1);
        DUE.is("blamed without fuel", ran(NO_FUEL, 1, 3).blamed(), -1);
        DUE.is("blamed without room", ran(NO_ROOM, 40, 4).blamed(), -1);
        BlameDesk desk = ran("(\\x:i.{x+<T:?>} 1)", 1, 2);
        DUE.is("blamed with fuel", desk.blamed(), 2 * 6);
        desk.run(0);
        DUE.is("blamed without fuel behind blame", desk.blamed(), -1);
        desk.run(1);
        DUE.is("blamed with fuel again", desk.blamed(), 2 * 6);
        Due.check(desk, "1");
        DUE.is("blamed behind a check", desk.blamed(), -1);
    }

    // Promise 9

    // Puts out 1, 2, 3 and so on, two less than there is fuel, and then ends without it.
    private static final String COUNTING = "(\\c:&i.(\\x:?.(x x) \\x:?.[{$(c={!c+1})<0}?x:(x x)]) @0)";

    // "What the latest run put out k before the latest (k = 0 is the latest) ..."
    private static void outputsBeforeTheLatest() {
        BlameDesk desk = Due.desk(COUNTING);
        for (int many = 0; many <= 38; many++) {
            desk.run(many + 2);
            for (int k = 0; k <= 15 && k < many; k++) {
                DUE.is("output(" + k + ") of " + many, desk.output(k), many - k);
            }
            if (many % 10 == 9) {
                desk = Due.desk(COUNTING);
            }
        }
        DUE.is("a negative output", ran("${0-5}", 0, 1).output(0), -5);
    }

    // "... 0 if there is none ..."
    private static void noSuchOutput() {
        DUE.is("output of a new object", new BlameDesk().output(0), 0);
        DUE.is("output before a run", Due.desk("$5").output(0), 0);
        for (int many = 0; many <= 15; many++) {
            BlameDesk desk = Due.desk(COUNTING);
            // What an earlier run has put out is no output of the latest.
            desk.run(40);
            desk.run(many + 2);
            for (int k = many; k <= 15; k++) {
                DUE.is("output(" + k + ") of " + many, desk.output(k), 0);
            }
        }
        BlameDesk desk = ran("$5", 0, 1);
        Due.check(desk, "1");
        DUE.is("output behind a check", desk.output(0), 0);
        desk.run(0);
        DUE.is("output of a run without", desk.output(0), 0);
    }

    // "... or k is not 0 .. 15."
    private static void outputOutside0To15() {
        for (int fuel : new int[] {17, 18, 19, 40}) {
            BlameDesk desk = ran(COUNTING, fuel, 3);
            DUE.is("output(14) with fuel " + fuel, desk.output(14), fuel - 2 - 14);
            DUE.is("output(15) with fuel " + fuel, desk.output(15), fuel - 2 - 15);
            for (int k : new int[] {-17, -16, -3, -2, 16, 17, 31, 32, 37, 38}) {
                DUE.is("output(" + k + ") with fuel " + fuel, desk.output(k), 0);
            }
            for (int k : FAR) {
                DUE.is("output(" + k + ") with fuel " + fuel, desk.output(k), 0);
            }
        }
    }

    // "How many were put out if k is -1 (however the run ended)."
    private static void howManyOutputs() {
        DUE.is("outputs of a new object", new BlameDesk().output(-1), 0);
        DUE.is("outputs before a run", Due.desk("$1").output(-1), 0);
        DUE.is("outputs of a run without", ran("1", 0, 1).output(-1), 0);
        DUE.is("outputs with a value", ran(VALUE, 40, 1).output(-1), 1);
        DUE.is("outputs with blame", ran(BLAME, 40, 2).output(-1), 1);
        DUE.is("outputs without fuel", ran(NO_FUEL, 1, 3).output(-1), 1);
        DUE.is("outputs without room", ran(NO_ROOM, 40, 4).output(-1), 8);
        for (int fuel : new int[] {2, 3, 16, 17, 18, 19, 20, 34, 40}) {
            DUE.is("outputs with fuel " + fuel, ran(COUNTING, fuel, 3).output(-1), fuel - 2);
        }
        // Eleven in each of 39 rounds.
        String many = "(\\x:?.(x x) \\x:?.[{" + "$".repeat(11) + "1<0}?x:(x x)])";
        DUE.is("more than a few outputs", ran(many, 40, 3).output(-1), 11 * 39);
    }

    // Promise 10

    // "How many calls of functions of the text the latest run made ..."
    private static void callsOfTheLatestRun() {
        BlameDesk desk = Due.desk("(\\f:(i>i).{(f 1)+(f 2)} <\\x:?.x:(i>i)>)");
        int[][] due = {{40, 3}, {3, 3}, {2, 2}, {1, 1}, {0, 0}, {40, 3}};
        for (int[] run : due) {
            desk.run(run[0]);
            DUE.is("calls of run(" + run[0] + ")", desk.calls(), run[1]);
        }
        DUE.is("calls with blame", ran(BLAME, 40, 2).calls(), 1);
        DUE.is("calls without fuel", ran(NO_FUEL, 1, 3).calls(), 1);
        DUE.is("calls without room", ran(NO_ROOM, 40, 4).calls(), 10);
        DUE.is("calls with blame before the call", ran("(<\\x:i.x:?> T)", 40, 2).calls(), 0);
        DUE.is("calls with blame behind the call", ran("(<\\x:?.x:(?>i)> T)", 40, 2).calls(), 1);
    }

    // "... 0 if there was none."
    private static void noCalls() {
        DUE.is("calls of a new object", new BlameDesk().calls(), 0);
        BlameDesk desk = Due.desk("(\\x:i.x 1)");
        DUE.is("calls before a run", desk.calls(), 0);
        desk.run(1);
        DUE.is("calls of a run", desk.calls(), 1);
        Due.check(desk, "1");
        DUE.is("calls behind a check", desk.calls(), 0);
        desk.run(1);
        DUE.is("calls of a run without", desk.calls(), 0);
    }

    // Promise 11

    // "How many cells the latest run made by @ ..."
    private static void cellsOfTheLatestRun() {
        DUE.is("stored in one another", ran("@@@1", 0, 1).stored(), 3);
        BlameDesk desk = Due.desk("(\\c:&i.{(c=2)+{!<c:&?>+!@3}} @1)");
        int[][] due = {{40, 2}, {0, 1}, {40, 2}};
        for (int[] run : due) {
            desk.run(run[0]);
            DUE.is("stored of run(" + run[0] + ")", desk.stored(), run[1]);
        }
        DUE.is("stored with blame", ran(BLAME, 40, 2).stored(), 1);
        DUE.is("stored without fuel", ran(NO_FUEL, 1, 3).stored(), 1);
        DUE.is("stored without room", ran(NO_ROOM, 40, 4).stored(), 40);
        DUE.is("cells of casts are not made by @", ran("<<@1:&?>:?>", 0, 1).stored(), 1);
    }

    // "... 0 if there was none."
    private static void noCells() {
        DUE.is("stored of a new object", new BlameDesk().stored(), 0);
        BlameDesk desk = Due.desk("@1");
        DUE.is("stored before a run", desk.stored(), 0);
        desk.run(0);
        DUE.is("stored of a run", desk.stored(), 1);
        Due.check(desk, "1");
        DUE.is("stored behind a check", desk.stored(), 0);
        desk.run(0);
        DUE.is("stored of a run without", desk.stored(), 0);
    }

    // No call throws anything, whatever it is given and whatever came before it.
    private static void anyArguments() {
        String[] texts = {"", "1 ", "x", "1", VALUE, BLAME, NO_FUEL, NO_ROOM, Due.FULL_TEXT, "(".repeat(100), "\\".repeat(100)};
        for (String text : texts) {
            BlameDesk desk = new BlameDesk();
            Due.write(desk, text);
            askAnything(desk, text);
            desk.check();
            askAnything(desk, text);
            desk.run(40);
            askAnything(desk, text);
        }
    }

    private static void askAnything(BlameDesk desk, String text) {
        int[] some = {Integer.MIN_VALUE, -101, -1, 0, 1, 16, 41, 101, Integer.MAX_VALUE};
        try {
            for (int k : some) {
                desk.type(k);
                desk.result(k);
                desk.output(k);
                desk.run(k);
            }
            desk.write(Long.MIN_VALUE);
            desk.position();
            desk.blamed();
            desk.calls();
            desk.stored();
        } catch (RuntimeException thrown) {
            DUE.is("a call with '" + text + "' that threw " + thrown, true, false);
        }
    }
}
