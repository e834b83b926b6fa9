/**
 * The sections "What it is", "The public face" and "Terms": each sentence that names a boundary case has a
 * test of its own. The words above a test are the document's.
 */
public final class TermsTest {
    private static final Due DUE = new Due();

    // A function that calls itself for ever.
    private static final String LOOP = "(\\x:?.(x x) \\x:?.(x x))";

    public static void main(String[] args) {
        fiveHundredAndTwelveCalls();
        fiveHundredAndTwelveCallsWithManyTypes();
        theConstant();
        textHasAtMost100Characters();
        textHasCodes32To126();
        textIsEmptyAtFirst();
        positionsCountFrom0();
        typesAreWrittenSo();
        variablesAreLettersAToZ();
        numbersHave1To3Digits();
        callHasOneBlank();
        noOtherBlanks();
        noneMoreThan20Deep();
        consistentTypes();
        groundTypes();
        checkingGivesTypes();
        variableThatNoFunctionHas();
        callOfWhatIsNoFunction();
        writeToWhatIsNoCell();
        operationsNeedNumbers();
        choiceNeedsABooleanAndLikeTypes();
        readOfWhatIsNoCell();
        castNeedsConsistentTypes();
        outputNeedsANumber();
        partsAreCheckedFirst();
        labelIsThePositionOfWhatSaysTheCast();
        partsFromTheLeftToTheRight();
        choiceWorksOutOneOfTwo();
        lessIsNotEqual();
        bodyWhenItIsCalled();
        sumsAndDifferencesWrap();
        writePutsTheValueBehindItsCast();
        castToTheSameType();
        castToOpen();
        castFromOpen();
        castOfFunctions();
        castOfCells();
        withoutFuel();
        behindTheCastsOfTheArgument();
        thatCallCountsNowhere();
        onlyFunctionsOfTheTextTakeFuel();
        fortyCells();
        twoHundredCastsOfCells();
        twoHundredCastsOfFunctions();
        twoHundredCastsByReadsAndWrites();
        twoHundredCastsAroundOneCell();
        roomIsCountedInThisRun();
        DUE.end();
    }

    private static int checkOf(String text) {
        return Due.check(new BlameDesk(), text);
    }

    private static void isExpression(String text, boolean due) {
        DUE.is("'" + text + "' is an expression", checkOf(text) != 1, due);
    }

    private static void errorAt(int position, String... texts) {
        for (String text : texts) {
            BlameDesk desk = new BlameDesk();
            DUE.is("check of " + text, Due.check(desk, text), 2);
            DUE.is("position in " + text, desk.position(), position);
        }
    }

    private static void noErrorIn(String... texts) {
        for (String text : texts) {
            DUE.is("check of " + text, checkOf(text), 0);
        }
    }

    private static BlameDesk ends(String text, int fuel, int ending) {
        BlameDesk desk = Due.desk(text);
        DUE.is("run(" + fuel + ") of " + text, desk.run(fuel), ending);
        return desk;
    }

    private static void blames(int blamed, String... texts) {
        for (String text : texts) {
            DUE.is("blamed of " + text, ends(text, 40, 2).blamed(), blamed);
        }
    }

    /** The outputs of a run that ends so, the earliest first. */
    private static void putsOut(String text, int ending, int... due) {
        BlameDesk desk = ends(text, 40, ending);
        DUE.is("how many outputs of " + text, desk.output(-1), due.length);
        for (int k = 0; k < due.length; k++) {
            DUE.is("output(" + k + ") of " + text, desk.output(k), due[due.length - 1 - k]);
        }
    }

    private static void gives(String text, int kind, int number, int tagged) {
        BlameDesk desk = ends(text, 40, 1);
        DUE.is("result(0) of " + text, desk.result(0), kind);
        DUE.is("result(1) of " + text, desk.result(1), number);
        DUE.is("result(2) of " + text, desk.result(2), tagged);
    }

    // "An object is used for at most 512 calls after it has been made; what later calls answer is free."
    private static void fiveHundredAndTwelveCalls() {
        BlameDesk desk = new BlameDesk();
        for (int round = 0; round < 32; round++) {
            DUE.is("13 writes in round " + round, Due.write(desk, Due.FULL_TEXT), true);
            DUE.is("check in round " + round, desk.check(), 0);
            DUE.is("run in round " + round, desk.run(40), 1);
            DUE.is("result in round " + round, desk.result(1), 17 * 999);
        }
    }

    private static void fiveHundredAndTwelveCallsWithManyTypes() {
        // Eight calls in each round: four writes, a check, and three others.
        BlameDesk desk = new BlameDesk();
        for (int round = 0; round < 64; round++) {
            String type = "&".repeat(round % 8) + (round % 3 == 0 ? "(i>" : "(b>") + (round % 5 == 0 ? "(i>b))" : "&(?>b))");
            String text = "\\x:" + type + ".\\y:&i.x";
            while (text.length() < 25) {
                text = "@" + text;
            }
            DUE.is("four writes in round " + round, Due.write(desk, text), true);
            DUE.is("check in round " + round, desk.check(), 0);
            int ats = text.indexOf('\\');
            String due = "@".repeat(ats).replace('@', '&') + "(" + type + ">(&i>" + type + "))";
            for (int k : new int[] {due.length() / 2, due.length() - 4, due.length()}) {
                DUE.is("type(" + k + ") in round " + round, desk.type(k), k < due.length() ? due.charAt(k) : -1);
            }
        }
    }

    // "NONE = -1"
    private static void theConstant() {
        DUE.is("NONE", BlameDesk.NONE, -1);
    }

    // "THE TEXT has at most 100 characters ..."
    private static void textHasAtMost100Characters() {
        BlameDesk desk = new BlameDesk();
        String text = Due.FULL_TEXT;
        for (int i = 0; i < 100; i++) {
            DUE.is("write of character " + i, desk.write(text.charAt(i)), true);
        }
        DUE.is("write of character 100", desk.write('1'), false);
        DUE.is("check of 100 characters", desk.check(), 0);
        desk.run(0);
        DUE.is("result of 100 characters", desk.result(1), 17 * 999);
    }

    // "... with codes 32 .. 126 ..."
    private static void textHasCodes32To126() {
        for (int code = 1; code < 256; code++) {
            BlameDesk desk = new BlameDesk();
            DUE.is("write of code " + code, desk.write(code), code >= 32 && code <= 126);
        }
    }

    // "... at first none ..."
    private static void textIsEmptyAtFirst() {
        DUE.is("check of the first text", new BlameDesk().check(), 1);
        BlameDesk desk = new BlameDesk();
        DUE.is("100 characters into the first text", Due.write(desk, Due.FULL_TEXT), true);
        DUE.is("they alone are the text", desk.check(), 0);
    }

    // "POSITIONS in it count from 0."
    private static void positionsCountFrom0() {
        errorAt(0, "x");
        errorAt(1, "$x");
        // The last one that there can be.
        errorAt(99, Due.FULL_TEXT_WITH_ERROR);
    }

    // "TYPES: i, b, ? (open), (t>u) for types t and u, &t for a type t."
    private static void typesAreWrittenSo() {
        for (String type : new String[] {"i", "b", "?", "(i>b)", "&i", "&&?", "(&i>(?>b))", "((i>b)>?)", "&(i>i)"}) {
            isExpression("\\x:" + type + ".x", true);
            isExpression("<x:" + type + ">", true);
        }
        String[] wrong = {"", "x", "T", "1", "I", "()", "(i)", "(>)", "(i>)", "(>i)", "(i>b", "i>b", "i>b)", "(i>b>i)", "&", "i&", "??", "ib",
            "((i>b))", "(i b)", "(i=b)", "(i>b]"};
        for (String type : wrong) {
            isExpression("\\x:" + type + ".x", false);
            isExpression("<x:" + type + ">", false);
        }
    }

    // "x a letter a .. z"
    private static void variablesAreLettersAToZ() {
        for (char c = 32; c <= 126; c++) {
            boolean isLetter = c >= 'a' && c <= 'z';
            isExpression("\\" + c + ":i.1", isLetter);
            boolean isOther = c >= '0' && c <= '9' || c == 'T' || c == 'F';
            isExpression("" + c, isLetter || isOther);
            if (isLetter) {
                noErrorIn("\\" + c + ":i." + c);
            }
        }
        isExpression("ab", false);
        isExpression("\\ab:i.1", false);
        isExpression("\\:i.1", false);
    }

    // "a NUMBER (1 to 3 digits)"
    private static void numbersHave1To3Digits() {
        isExpression("{+1}", false);
        isExpression("$", false);
        gives("0", 0, 0, 0);
        gives("9", 0, 9, 0);
        gives("10", 0, 10, 0);
        gives("99", 0, 99, 0);
        gives("100", 0, 100, 0);
        gives("999", 0, 999, 0);
        gives("000", 0, 0, 0);
        gives("012", 0, 12, 0);
        isExpression("1000", false);
        isExpression("0001", false);
        isExpression("0000", false);
        isExpression("{1000+1}", false);
        for (char c = 32; c <= 126; c++) {
            isExpression("1" + c, c >= '0' && c <= '9');
        }
    }

    // "(E F) with one blank (a call)"
    private static void callHasOneBlank() {
        isExpression("(x y)", true);
        isExpression("(xy)", false);
        isExpression("(x  y)", false);
    }

    // "There are no other blanks."
    private static void noOtherBlanks() {
        String[] texts = {"123", "T", "F", "x", "\\x:i.x", "\\x:(i>&?).x", "(x y)", "(x=y)", "{x+y}", "{x-y}", "{x<y}", "[x?y:z]", "@x", "!x",
            "<x:i>", "<x:(i>&b)>", "$x"};
        for (String text : texts) {
            isExpression(text, true);
            for (int at = 0; at <= text.length(); at++) {
                isExpression(text.substring(0, at) + " " + text.substring(at), false);
            }
        }
    }

    // "The whole is 1 deep, a type or an expression directly in one that is n deep is n + 1 deep; none may be more
    // than 20 deep."
    private static void noneMoreThan20Deep() {
        isExpression("@".repeat(19) + "1", true);
        isExpression("@".repeat(20) + "1", false);
        String[] expressions = {"\\x:i._", "(_ 1)", "(1 _)", "(_=1)", "(1=_)", "{_+1}", "{1+_}", "{_-1}", "{1-_}", "{_<1}", "{1<_}",
            "[_?1:1]", "[1?_:1]", "[1?1:_]", "@_", "!_", "<_:i>", "$_"};
        for (String form : expressions) {
            onlyThisPartIsTooDeep(form, "1", "@1", 3);
        }
        for (String form : new String[] {"\\x:_.1", "<1:_>"}) {
            onlyThisPartIsTooDeep(form, "i", "&i", 3);
            onlyThisPartIsTooDeep(form, "i", "(i>i)", 3);
        }
        for (String form : new String[] {"\\x:&_.1", "\\x:(_>i).1", "\\x:(i>_).1", "<1:&_>", "<1:(_>i)>", "<1:(i>_)>"}) {
            onlyThisPartIsTooDeep(form, "i", "&i", 4);
        }
        isExpression("\\x:" + "&".repeat(18) + "i.1", true);
        isExpression("\\x:" + "&".repeat(19) + "i.1", false);
    }

    /** The deep part has something that is so much deeper than what stands around the form. */
    private static void onlyThisPartIsTooDeep(String form, String shallow, String deep, int levels) {
        isExpression("@".repeat(20 - levels) + form.replace("_", deep), true);
        isExpression("@".repeat(21 - levels) + form.replace("_", shallow), true);
        isExpression("@".repeat(21 - levels) + form.replace("_", deep), false);
    }

    // "CONSISTENT are a type and itself, ? and every type, two (t>u) and (v>w) if t and v, and u and w are, two &t
    // and &u if t and u are."
    private static void consistentTypes() {
        String[] types = {"i", "b", "?", "(i>b)", "(?>?)", "((i>?)>&b)", "&i", "&?", "&&(b>?)"};
        for (String type : types) {
            areConsistent(type, type, true);
            areConsistent(type, "?", true);
        }
        String[][] consistent = {
            {"(i>b)", "(?>b)"}, {"(i>b)", "(i>?)"}, {"(i>?)", "(?>b)"}, {"((i>b)>i)", "((?>b)>?)"}, {"(i>(i>b))", "(?>(i>?))"},
            {"&i", "&?"}, {"&&b", "&&?"}, {"&&b", "&?"}, {"&(i>?)", "&(?>b)"}, {"(&i>&?)", "(&?>&b)"},
            {"&".repeat(17) + "i", "&".repeat(17) + "?"},
        };
        for (String[] pair : consistent) {
            areConsistent(pair[0], pair[1], true);
        }
        String[][] not = {
            {"i", "b"}, {"i", "(i>i)"}, {"i", "&i"}, {"b", "(b>b)"}, {"b", "&b"}, {"(i>i)", "&i"}, {"(?>?)", "&?"},
            {"(i>i)", "(b>i)"}, {"(i>i)", "(i>b)"}, {"(i>?)", "(b>?)"}, {"(?>i)", "(?>b)"}, {"((i>b)>i)", "((i>i)>i)"},
            {"(i>(i>b))", "(i>(b>b))"}, {"&i", "&b"}, {"&&i", "&&b"}, {"&(i>?)", "&(b>?)"}, {"&(?>i)", "&(?>b)"}, {"&&?", "&(?>?)"},
            {"&i", "&&i"}, {"(&i>?)", "(&b>?)"}, {"&".repeat(17) + "i", "&".repeat(17) + "b"},
        };
        for (String[] pair : not) {
            areConsistent(pair[0], pair[1], false);
        }
    }

    private static void areConsistent(String t, String u, boolean due) {
        DUE.is(t + " and " + u + " are consistent", checkOf("\\x:" + t + ".<x:" + u + ">"), due ? 0 : 2);
        DUE.is(u + " and " + t + " are consistent", checkOf("\\x:" + u + ".<x:" + t + ">"), due ? 0 : 2);
    }

    // "GROUND types are i, b, (?>?), &?; the ground of i, b, (t>u), &t is i, b, (?>?), &?."
    private static void groundTypes() {
        String[][] values = {{"1"}, {"T"}, {"\\x:i.x", "\\x:?.x", "\\x:b.@x"}, {"@1", "@<1:?>", "@@T"}};
        String[][] types = {{"i"}, {"b"}, {"(?>?)", "(i>i)", "(b>?)"}, {"&?", "&i", "&&b"}};
        for (int v = 0; v < 4; v++) {
            for (int t = 0; t < 4; t++) {
                for (String value : values[v]) {
                    for (String type : types[t]) {
                        BlameDesk desk = ends("<<" + value + ":?>:" + type + ">", 0, v == t ? 1 : 2);
                        DUE.is("kind of " + value + " cast to " + type, desk.result(0), v == t ? v : -1);
                        DUE.is("blamed of " + value + " cast to " + type, desk.blamed(), v == t ? -1 : 0);
                    }
                }
            }
        }
    }

    // "CHECKING an expression, from the left to the right, gives it a type ..."
    private static void checkingGivesTypes() {
        hasType("1", "i");
        hasType("T", "b");
        hasType("F", "b");
        hasType("\\x:?.x", "(?>?)");
        hasType("\\x:?.@x", "(?>&?)");
        hasType("\\x:b.1", "(b>i)");
        hasType("\\x:(?>?).\\y:&?.x", "((?>?)>(&?>(?>?)))");
        hasType("(\\x:i.T 1)", "b");
        hasType("(<1:?> 1)", "?");
        hasType("(@1=<T:?>)", "i");
        hasType("(<1:?>=1)", "?");
        hasType("{<T:?>+1}", "i");
        hasType("{<T:?>-1}", "i");
        hasType("{<T:?><1}", "b");
        hasType("[<1:?>?T:<1:?>]", "b");
        hasType("[T?<1:?>:T]", "?");
        hasType("@<1:?>", "&?");
        hasType("@\\x:?.x", "&(?>?)");
        hasType("!@T", "b");
        hasType("!<1:?>", "?");
        hasType("<1:?>", "?");
        hasType("<\\x:i.x:(?>i)>", "(?>i)");
        hasType("$<T:?>", "i");
    }

    private static void hasType(String text, String type) {
        BlameDesk desk = Due.desk(text);
        for (int k = 0; k < type.length(); k++) {
            DUE.is("type(" + k + ") of " + text, desk.type(k), type.charAt(k));
        }
        DUE.is("type(" + type.length() + ") of " + text, desk.type(type.length()), -1);
    }

    // "a variable that of the innermost function around it that has it, an error at it if there is none"
    private static void variableThatNoFunctionHas() {
        noErrorIn("\\x:i.x", "\\x:b.\\x:i.$x", "\\x:i.\\y:b.$x", "(\\y:(i>i).y \\x:i.$x)");
        errorAt(0, "x");
        errorAt(5, "\\x:i.y");
        errorAt(8, "(\\x:i.x x)");
        errorAt(1, "(x \\x:i.x)");
        errorAt(11, "\\x:i.\\x:b.$x");
        errorAt(10, "\\x:i.\\y:i.z");
    }

    // "(E F): with E of (t>u), F must be consistent with t ...; with E of ? ...; else an error at E."
    private static void callOfWhatIsNoFunction() {
        noErrorIn("(\\x:i.x 1)", "(\\x:i.x <1:?>)", "(\\x:?.x T)", "(<1:?> T)", "(<1:?> \\x:i.x)");
        gives("(<\\x:?.x:?> 5)", 0, 5, 1);
        errorAt(1, "(1 1)", "(T 1)", "(@1 1)", "(@\\x:i.x 1)", "({1+1} T)");
        errorAt(8, "(\\x:i.x T)", "(\\x:i.x @1)", "(\\x:b.x 1)");
        errorAt(12, "(\\x:(i>i).x \\x:b.1)");
    }

    // "(E=F): with E of &t, F must be consistent with t ...; with E of ? ...; else an error at E."
    private static void writeToWhatIsNoCell() {
        noErrorIn("(@1=2)", "(@1=<2:?>)", "(@<1:?>=T)", "(<1:?>=T)", "(<1:?>=\\x:i.x)");
        gives("(<@<1:?>:?>=5)", 0, 5, 1);
        errorAt(1, "(1=1)", "(T=1)", "(\\x:i.x=1)", "(!@1=1)");
        errorAt(4, "(@1=T)", "(@T=1)", "(@1=@1)");
        errorAt(5, "(@@1=@T)");
    }

    // "{E+F}, {E-F} have i, {E<F} b: E and F must be consistent with i ..."
    private static void operationsNeedNumbers() {
        for (char sign : new char[] {'+', '-', '<'}) {
            noErrorIn("{1" + sign + "1}", "{<T:?>" + sign + "<@1:?>}");
            errorAt(1, "{T" + sign + "1}", "{@1" + sign + "1}", "{\\x:i.x" + sign + "1}", "{T" + sign + "F}");
            errorAt(3, "{1" + sign + "T}", "{1" + sign + "@1}", "{1" + sign + "\\x:i.x}");
        }
    }

    // "[E?F:G]: E must be consistent with b ...; G must be consistent with the type of F ..."
    private static void choiceNeedsABooleanAndLikeTypes() {
        noErrorIn("[T?1:2]", "[<1:?>?1:2]", "[T?<1:?>:T]", "[T?1:<T:?>]", "[T?@<1:?>:@T]");
        errorAt(1, "[1?1:2]", "[@T?1:2]", "[\\x:b.x?1:2]", "[1?1:T]");
        errorAt(5, "[T?1:T]", "[T?T:1]", "[T?1:@1]");
        errorAt(6, "[T?@1:@T]");
    }

    // "!E: with E of &t it has t; with E of ? ...; else an error at E."
    private static void readOfWhatIsNoCell() {
        noErrorIn("!@1", "!@@1", "!<1:?>");
        errorAt(1, "!1", "!T", "!\\x:i.x", "!\\x:i.@x", "!!@1", "!{1+1}");
    }

    // "<E:t>: E must be consistent with t ..."
    private static void castNeedsConsistentTypes() {
        noErrorIn("<1:i>", "<1:?>", "<<1:?>:b>", "<\\x:i.x:(?>?)>", "<@1:&?>");
        errorAt(1, "<1:b>", "<T:i>", "<1:&i>", "<1:(?>?)>", "<@1:&b>", "<\\x:i.x:(?>b)>", "<\\x:i.x:(b>?)>");
    }

    // "$E: E must be consistent with i ..."
    private static void outputNeedsANumber() {
        noErrorIn("$1", "$<1:?>", "$<T:?>");
        errorAt(1, "$T", "$@1", "$\\x:i.x", "${1<2}");
    }

    // "All parts of an expression are checked before what is said of them together, and of that what is named first
    // comes first."
    private static void partsAreCheckedFirst() {
        errorAt(3, "(1 x)", "(1=x)", "{T+x}", "{T-x}", "{T<x}", "[1?x:y]");
        errorAt(5, "[1?1:x]", "[1?T:x]");
        errorAt(1, "(x y)", "(x=y)", "{x+y}", "[x?y:z]", "<x:b>", "$x", "@x", "!x");
        errorAt(6, "(\\x:i.y T)");
        errorAt(4, "<{1+T}:b>", "({1+T} x)", "[{1+T}?x:y]", "@{1+T}");
        errorAt(1, "{T+F}", "[1?2:T]", "(1 T)", "(T=T)");
    }

    // "The label of a cast is the position of the expression that says it (not of what is cast)."
    private static void labelIsThePositionOfWhatSaysTheCast() {
        blames(0, "<<1:?>:b>", "$<T:?>");
        blames(2, "@(<1:?> 2)", "@(\\x:i.x <T:?>)", "@(<1:?>=2)", "@(@1=<T:?>)", "@{<T:?>+1}", "@{1+<T:?>}", "@{<T:?>-1}", "@{1-<T:?>}",
            "@{<T:?><1}", "@{1<<T:?>}", "@[<1:?>?1:2]", "@[F?1:<T:?>]", "@!<1:?>", "@<<1:?>:b>", "@$<T:?>");
        // A label near the end of the longest text.
        String text = "[F?" + "{999+".repeat(14) + "99" + "}".repeat(14) + ":<<T:?>:i>]";
        DUE.is("length of the text", text.length(), 100);
        blames(180, text);
    }

    // "Parts are worked out from the left to the right, each being cast, as said, before the next one ..."
    private static void partsFromTheLeftToTheRight() {
        putsOut("((\\x:i.\\y:i.y $1) $2)", 1, 1, 2);
        putsOut("(@$1=$2)", 1, 1, 2);
        putsOut("(<1:?> $5)", 2);
        putsOut("(<1:?>=$5)", 2);
        putsOut("(\\x:i.x <{$5<6}:?>)", 2, 5);
        for (char sign : new char[] {'+', '-', '<'}) {
            putsOut("{$1" + sign + "$2}", 1, 1, 2);
            putsOut("{<T:?>" + sign + "$5}", 2);
            putsOut("{$5" + sign + "<T:?>}", 2, 5);
        }
        putsOut("[<1:?>?$5:$6]", 2);
        putsOut("$<T:?>", 2);
        putsOut("$$$1", 1, 1, 1, 1);
    }

    // "... of [E?F:G], E and then F or G ..."
    private static void choiceWorksOutOneOfTwo() {
        putsOut("[{$1<$2}?$3:$4]", 1, 1, 2, 3);
        putsOut("[{$2<$1}?$3:$4]", 1, 2, 1, 4);
        gives("[T?1:<T:?>]", 0, 1, 0);
        gives("[F?<<1:?>:b>:T]", 1, 1, 0);
    }

    // {E<F} at its boundary.
    private static void lessIsNotEqual() {
        gives("{1<2}", 1, 1, 0);
        gives("{2<2}", 1, 0, 0);
        gives("{3<2}", 1, 0, 0);
        gives("{{0-1}<0}", 1, 1, 0);
        gives("{0<{0-1}}", 1, 0, 0);
    }

    // "... a function's body when it is called."
    private static void bodyWhenItIsCalled() {
        putsOut("\\x:i.$1", 1);
        putsOut("(\\f:(i>i).1 \\x:i.$x)", 1);
        putsOut("(\\x:i.$x 5)", 1, 5);
        putsOut("(\\f:(i>i).{(f 1)+(f 2)} \\x:i.$x)", 1, 1, 2);
        gives("\\x:i.<<1:?>:b>", 2, 0, 0);
    }

    // "Sums and differences wrap."
    private static void sumsAndDifferencesWrap() {
        // Each round makes the number in the cell greater, until what is said of it goes over the edge.
        String start = "(\\c:&i.(\\x:?.(x x) \\x:?.[";
        String end = "?x:(x x)]) @1)";
        BlameDesk twice = ends(start + "{$(c={!c+!c})<0}" + end, 40, 1);
        DUE.is("the greatest sum of halves", twice.output(1), 1 << 30);
        DUE.is("the sum of halves that wraps", twice.output(0), Integer.MIN_VALUE);
        BlameDesk sum = ends(start + "{${(c={{!c+!c}+1})+1}<0}" + end, 40, 1);
        DUE.is("one more than the greatest", sum.output(0), Integer.MIN_VALUE);
        BlameDesk greatest = ends(start + "{{$(c={{!c+!c}+1})+1}<0}" + end, 40, 1);
        DUE.is("the greatest", greatest.output(0), Integer.MAX_VALUE);
        BlameDesk difference = ends(start + "{0<${{0-(c={{!c+!c}+1})}-2}}" + end, 40, 1);
        DUE.is("one less than the smallest", difference.output(0), Integer.MAX_VALUE);
    }

    // "(E=F) puts the value of F (as it is behind its cast to t) into the cell, and its own value is that."
    private static void writePutsTheValueBehindItsCast() {
        gives("(@1=<5:?>)", 0, 5, 0);
        gives("(@<1:?>=5)", 0, 5, 1);
        gives("(<@1:&?>=5)", 0, 5, 1);
        gives("(<@<1:?>:&i>=5)", 0, 5, 0);
        gives("(\\c:&?.(\\u:?.!c (c=5)) @<1:?>)", 0, 5, 1);
        gives("(\\c:&i.(\\u:?.!c (<c:&?>=5)) @1)", 0, 5, 0);
    }

    // Texts below make so many rounds of casts as there is fuel but one: the first call is that of \x:?.(x x).
    private static String rounds(String number) {
        return "(\\x:?.(x x) \\x:?.[{" + number + "<0}?x:(x x)])";
    }

    /** As rounds, but with a function from ? to i, which is cast to ? before the first round and so makes one more. */
    private static String roundsBehindOneCast(String number) {
        return "(\\x:?.(x x) \\x:?.{" + number + "+(x x)})";
    }

    // "A CAST of a value v from t to u ...: if t is u: v."
    private static void castToTheSameType() {
        gives("<1:i>", 0, 1, 0);
        gives("<<1:?>:?>", 0, 1, 1);
        // More than 200 of them make nothing.
        ends("(\\c:&i." + rounds("!" + "<".repeat(8) + "c" + ":&i>".repeat(8)) + " @1)", 40, 3);
        ends("(\\x:?.(x x) \\x:?.(x " + "<".repeat(8) + "x" + ":(?>?)>".repeat(8) + "))", 40, 3);
    }

    // "If u is ?: v is cast from t to its ground with p, and TAGGED with that ground."
    private static void castToOpen() {
        gives("<1:?>", 0, 1, 1);
        gives("<F:?>", 1, 0, 1);
        gives("<\\x:i.x:?>", 2, 0, 1);
        gives("<@1:?>", 3, 0, 1);
        blames(3, "(<\\x:i.x:?> T)", "(<@1:?>=T)");
        // From a ground type nothing is made.
        ends("(\\c:&?." + rounds("!" + "<".repeat(8) + "c" + ":?>:&?>".repeat(4)) + " @<1:?>)", 40, 3);
        ends("(\\x:?.(x x) \\x:?.(x " + "<".repeat(12) + "x" + ":(?>?)>:?>".repeat(6) + "))", 40, 3);
    }

    // "If t is ?: v is some w tagged with a ground g; if that is not the ground of u, p is BLAMED, with its side, and
    // the run ends; else w is cast from g to u with p."
    private static void castFromOpen() {
        gives("<<1:?>:i>", 0, 1, 0);
        gives("<<\\x:i.x:?>:(b>b)>", 2, 0, 0);
        gives("<<@1:?>:&b>", 3, 0, 0);
        blames(0, "<<1:?>:b>", "<<1:?>:(?>?)>", "<<1:?>:&?>", "<<@1:?>:(?>?)>", "<<\\x:i.x:?>:&?>", "<<T:?>:i>");
        blames(3, "(<\\x:i.x:(?>i)> T)");
        putsOut("{<<$1:?>:i>+{<<T:?>:i>+$2}}", 2, 1);
        blames(2, "(<<\\x:?.T:?>:(i>i)> 1)", "!<<@T:?>:&i>");
    }

    // "From (t>u) to (v>w): a function that, called with a value, casts that from v to t with p on its other side,
    // calls the first one with it, and casts what it gives from u to w with p (of several around one another the
    // outermost casts the argument first)."
    private static void castOfFunctions() {
        gives("(<\\x:i.x:(?>?)> 5)", 0, 5, 1);
        gives("(<\\x:?.x:(i>i)> 5)", 0, 5, 0);
        blames(3, "(<\\x:i.x:(?>?)> T)");
        blames(2, "(<\\x:?.x:(?>i)> T)");
        // Twice on its other side is its first side again.
        blames(2, "(<\\f:(?>i).(f 1):((b>i)>i)> \\y:b.7)");
        blames(3, "(<\\f:(i>i).(f 1):((i>?)>i)> \\y:i.<T:?>)");
        // The outer one at 1, the inner one at 2: which of the two casts first.
        blames(3, "(<<\\x:i.1:(i>i)>:(?>i)> T)", "(<<<\\x:b.1:(?>i)>:(i>i)>:(?>i)> T)");
        blames(5, "(<<\\x:i.x:(?>i)>:(b>i)> T)");
        blames(4, "(<<\\x:?.x:(?>i)>:(?>?)> T)");
        blames(2, "(<<\\x:?.x:(?>?)>:(?>i)> T)");
        putsOut("(<\\x:?.{$5<x}:(i>?)> 9)", 1, 5);
        putsOut("(<\\x:i.$5:(?>i)> T)", 2);
        putsOut("(<\\x:i.<{$5<x}:?>:(i>i)> 9)", 2, 5);
    }

    // "From &t to &u: a cell that when it is read casts what is in the first one from t to u with p, and when it is
    // written casts the value from u to t with p on its other side and writes that into the first one."
    private static void castOfCells() {
        gives("!<@5:&?>", 0, 5, 1);
        gives("!<@<5:?>:&i>", 0, 5, 0);
        blames(2, "!<@<T:?>:&i>");
        blames(3, "(<@1:&?>=T)");
        gives("(\\c:&i.(\\u:?.!c (<c:&?>=5)) @1)", 0, 5, 0);
        gives("(\\c:&?.(\\u:?.!c (<c:&i>=5)) @<T:?>)", 0, 5, 1);
        // Nothing is cast before it is read or written, and blame writes nothing.
        gives("<@<T:?>:&i>", 3, 0, 0);
        blames(5, "(!<@@1:&&?>=T)");
        blames(4, "!<<@<T:?>:&i>:&?>");
        blames(3, "(<<@<T:?>:&i>:&?>=F)");
        blames(5, "(<<@1:&?>:&b>=T)");
    }

    // "A run ends ... without FUEL, when a function of the text would be called once more than there is fuel"
    private static void withoutFuel() {
        ends("(\\x:i.x 1)", 0, 3);
        ends("(\\x:i.x 1)", 1, 1);
        String forty = "(\\f:(i>i)." + "(f ".repeat(13) + "1" + ")".repeat(13) + " \\x:i.(\\y:i.(\\z:i.z y) x))";
        ends(forty, 39, 3);
        ends(forty, 40, 1);
        ends("(\\u:i." + forty + " 1)", 40, 3);
        // As many expressions as can wait for one another.
        ends("(\\x:?.(x x) \\x:?." + "$".repeat(16) + "(x x))", 40, 3);
    }

    // "(behind the casts of its argument ...)"
    private static void behindTheCastsOfTheArgument() {
        blamesWithoutFuel("(\\x:i.x <T:?>)", 0);
        blamesWithoutFuel("(<\\x:i.x:(?>i)> T)", 3);
        blamesWithoutFuel("(<\\x:i.x:?> T)", 3);
        putsOut("(\\x:i.x <$1:?>)", 1, 1);
        DUE.is("output of the argument", ends("(\\x:i.x $1)", 0, 3).output(0), 1);
        // Three functions before the first round and nine in each one, the last of them by the cast of the argument.
        String room = "(\\x:?.(x x) <<\\x:?.$(<x:((?>i)>?)> " + "<".repeat(7) + "x" + ":(?>i)>:?>".repeat(3) + ":(?>i)>):?>:(?>i)>)";
        ends(room, 22, 3);
        DUE.is("calls before room ends", ends(room, 23, 4).calls(), 23);
        DUE.is("calls before room ends", ends(room, 24, 4).calls(), 23);
    }

    private static void blamesWithoutFuel(String text, int blamed) {
        DUE.is("blamed of " + text, ends(text, 0, 2).blamed(), blamed);
    }

    // "(... that call counts nowhere)"
    private static void thatCallCountsNowhere() {
        for (int fuel = 0; fuel <= 40; fuel++) {
            DUE.is("calls of the loop with " + fuel, ends(LOOP, fuel, 3).calls(), fuel);
        }
        BlameDesk desk = ends("(\\x:i.$x 1)", 0, 3);
        DUE.is("outputs of the call not made", desk.output(-1), 0);
        DUE.is("cells of the call not made", ends("(\\x:i.!@x 1)", 0, 3).stored(), 0);
    }

    // "when a function of the text would be called": those of casts take no fuel.
    private static void onlyFunctionsOfTheTextTakeFuel() {
        BlameDesk desk = ends("(<<<\\x:i.x:(?>i)>:(i>?)>:?> 1)", 1, 1);
        DUE.is("calls through casts", desk.calls(), 1);
        ends("(<<<\\x:i.x:(?>i)>:(i>?)>:?> 1)", 0, 3);
    }

    // "or without ROOM, when there are 40 cells (of @) and one more would be new"
    private static void fortyCells() {
        String forty = "(\\f:(i>i)." + "(f ".repeat(8) + "1" + ")".repeat(8) + " \\x:i.!@!@!@!@!@x)";
        BlameDesk full = ends(forty, 40, 1);
        DUE.is("forty cells", full.stored(), 40);
        BlameDesk more = ends("!@" + forty, 40, 4);
        DUE.is("forty cells and no more", more.stored(), 40);
        BlameDesk again = ends("@$" + forty, 40, 4);
        DUE.is("what would be in the cell comes before it", again.output(-1), 1);
        DUE.is("with blame instead of one more", ends("@<<" + forty + ":?>:b>", 40, 2).stored(), 40);
        // Cells of casts are not of @.
        DUE.is("cells of @ beside those of casts", ends(rounds("!<<@1:&?>:&i>"), 40, 3).stored(), 39);
    }

    // "or casts from (t>u) to (v>w) and from &t to &u have made 200 functions and cells in this run and would make
    // one more"
    private static void twoHundredCastsOfCells() {
        String ten = "!" + "<".repeat(10) + "@1" + ":&?>:&i>".repeat(5);
        ends(rounds(ten), 21, 3);
        ends(rounds(ten), 22, 4);
        ends(roundsBehindOneCast(ten), 20, 3);
        ends(roundsBehindOneCast(ten), 21, 4);
        String byOpen = "!" + "<".repeat(10) + "@1" + ":?>:&i>".repeat(5);
        ends(rounds(byOpen), 21, 3);
        ends(rounds(byOpen), 22, 4);
        ends(roundsBehindOneCast(byOpen), 21, 4);
    }

    private static void twoHundredCastsOfFunctions() {
        String ten = "(x " + "<".repeat(10) + "x" + ":(?>i)>:?>".repeat(5) + ")";
        ends("(\\x:?.(x x) \\x:?." + ten + ")", 21, 3);
        ends("(\\x:?.(x x) \\x:?." + ten + ")", 22, 4);
        // The function from ? to i makes one more before the first round.
        ends("(\\x:?.(x x) \\x:?.$" + ten + ")", 20, 3);
        ends("(\\x:?.(x x) \\x:?.$" + ten + ")", 21, 4);
    }

    private static void twoHundredCastsByReadsAndWrites() {
        // Five cells by casts, and five when the outermost of them is read; two calls come before the first round.
        String read = "!!<<<<<c:&&?>:&&i>:&&?>:&&i>:&&?>";
        ends("(\\c:&&i." + rounds(read) + " @@1)", 22, 3);
        ends("(\\c:&&i." + rounds(read) + " @@1)", 23, 4);
        ends("(\\c:&&i." + roundsBehindOneCast(read) + " @@1)", 21, 3);
        ends("(\\c:&&i." + roundsBehindOneCast(read) + " @@1)", 22, 4);
        // Four cells by casts, and four when the outermost of them is written.
        String written = "!(<<<<c:&&?>:&&i>:&&?>:&&i>=!c)";
        ends("(\\c:&&i." + rounds(written) + " @@1)", 27, 3);
        ends("(\\c:&&i." + rounds(written) + " @@1)", 28, 4);
        ends("(\\c:&&i." + roundsBehindOneCast(written) + " @@1)", 26, 3);
        ends("(\\c:&&i." + roundsBehindOneCast(written) + " @@1)", 27, 4);
    }

    private static void twoHundredCastsAroundOneCell() {
        // Each round puts eight casts more around the cell in the cell, and reads it through all of them.
        BlameDesk desk = ends("(\\c:&&i." + rounds("$!(c=" + "<".repeat(8) + "!c" + ":&?>:&i>".repeat(4) + ")") + " @@{!@5+1})", 27, 3);
        DUE.is("outputs through all casts", desk.output(-1), 25);
        DUE.is("the output through 200 casts", desk.output(0), 6);
    }

    // "... in this run ..."
    private static void roomIsCountedInThisRun() {
        BlameDesk cells = Due.desk("(\\f:(i>i)." + "(f ".repeat(8) + "1" + ")".repeat(8) + " \\x:i.!@!@!@!@!@x)");
        BlameDesk casts = Due.desk(rounds("!" + "<".repeat(10) + "@1" + ":&?>:&i>".repeat(5)));
        for (int i = 0; i < 3; i++) {
            DUE.is("run with forty cells", cells.run(40), 1);
            DUE.is("cells of this run", cells.stored(), 40);
            DUE.is("run with two hundred casts", casts.run(21), 3);
            DUE.is("run with one more", casts.run(22), 4);
        }
    }
}
