/** Every promise of the document by its number: ordinary inputs, edges and wrong inputs. */
public final class PromiseTest {
    private static final Due DUE = new Due();

    public static void main(String[] args) {
        newObject();
        writeTakesCharacters();
        writeKeepsToTheRoom();
        checkRefusesWhatIsNoExpression();
        checkKeepsToTheDepth();
        checkEmptiesAndForgets();
        positionOfErrors();
        positionOtherwise();
        types();
        runEnds();
        runRefuses();
        runKeepsToFuel();
        runKeepsToCells();
        runKeepsToCasts();
        orderOfWork();
        scopes();
        results();
        resultsOtherwise();
        blame();
        blameOtherwise();
        outputs();
        calls();
        stored();
        DUE.end();
    }

    // Promise 1

    private static void newObject() {
        nothingIsThere("new object", new BlameDesk());
        DUE.is("NONE", BlameDesk.NONE, -1);
        DUE.is("new object: check", new BlameDesk().check(), 1);
    }

    private static void nothingIsThere(String when, BlameDesk desk) {
        DUE.is(when + ": type(0)", desk.type(0), -1);
        DUE.is(when + ": run(0)", desk.run(0), -1);
        nothingHasBeenRun(when, desk);
    }

    private static void nothingHasBeenRun(String when, BlameDesk desk) {
        for (int what = 0; what <= 2; what++) {
            DUE.is(when + ": result(" + what + ")", desk.result(what), -1);
        }
        DUE.is(when + ": blamed", desk.blamed(), -1);
        DUE.is(when + ": output(-1)", desk.output(-1), 0);
        DUE.is(when + ": output(0)", desk.output(0), 0);
        DUE.is(when + ": calls", desk.calls(), 0);
        DUE.is(when + ": stored", desk.stored(), 0);
    }

    // Promise 2

    private static void writeTakesCharacters() {
        BlameDesk desk = new BlameDesk();
        DUE.is("write nothing", desk.write(0), true);
        DUE.is("write {1+", desk.write(0x7b00310000002b00L), true);
        for (int code : new int[] {1, 31, 127, 128, 255}) {
            for (int shift = 0; shift < 64; shift += 8) {
                DUE.is("write code " + code, desk.write((long) code << shift), false);
                long with2 = (long) code << shift | 0x32L << (shift + 8) % 64;
                DUE.is("write code " + code + " and 2", desk.write(with2), false);
            }
        }
        DUE.is("write 2}", desk.write(0x327dL), true);
        DUE.is("check {1+2}", desk.check(), 0);
        desk.run(0);
        DUE.is("run {1+2}", desk.result(1), 3);
        DUE.is("write blank and tilde", desk.write(0x207eL), true);
        DUE.is("check blank and tilde", desk.check(), 1);
    }

    private static void writeKeepsToTheRoom() {
        BlameDesk desk = new BlameDesk();
        DUE.is("write 93", Due.write(desk, Due.FULL_TEXT.substring(0, 93)), true);
        DUE.is("write 8 where there is room for 7", desk.write(Due.packed("9+99}}}}")), false);
        DUE.is("write 7 where there is room for 7", desk.write(Due.packed(Due.FULL_TEXT.substring(93))), true);
        DUE.is("write 1 where there is no room", desk.write(' '), false);
        DUE.is("write 0 where there is no room", desk.write(0), true);
        DUE.is("check of 100", desk.check(), 0);
        DUE.is("write into the text emptied", Due.write(desk, Due.FULL_TEXT), true);
        DUE.is("the program stays while a text is written", desk.run(0), 1);
        DUE.is("result of 100", desk.result(1), 17 * 999);
        desk.check();
        desk.run(0);
        DUE.is("result of 100 again", desk.result(1), 17 * 999);
    }

    // Promise 3

    private static void checkRefusesWhatIsNoExpression() {
        String[] texts = {
            "", " ", "1234", "0000", "-1", "A", "TT", "xy", "1 ", " 1",
            "\\x:i", "\\x:i.", "\\x.x", "\\X:i.1", "\\1:i.1", "\\x:i .1", "\\:i.1", "\\x:x.x", "\\x:(i>b.x",
            "\\x:(i>).x", "\\x:(>i).x", "\\x:i>i.x", "\\x:&.x", "\\x:.x", "\\x:((i>b)).x",
            "(1 2", "(1  2)", "(1)", "()", "(1 )", "( 1)", "(1=2", "(1=)", "(=2)", "(1==2)",
            "(1= 2)", "(1+2)", "(1 2 3)",
            "{1+2", "{1+}", "{+1}", "{1}", "{1 + 2}", "{1=2}", "{1>2}", "{1 2}", "{1+2+3}", "{1+2)",
            "[T?1:2", "[T?1]", "[T:1?2]", "[T?1:]", "[T??1:2]", "[T? 1:2]", "[]", "@", "!", "$", "@ 1",
            "<1:i", "<1>", "<1:>", "<:i>", "<1:1>", "<1:i>>", "1)", "1}", "x]", "$1$", "~", "#1",
        };
        for (String text : texts) {
            DUE.is("check of '" + text + "'", checkOf(text), 1);
        }
        String[] right = {
            "0", "00", "007", "999", "T", "F", "\\x:i.x", "\\x:((i>b)>&?).x", "@1", "!@1", "$1", "(@1=2)", "(\\x:i.x 1)",
            "{1+2}", "{1-2}", "{1<2}", "[T?1:2]", "<1:?>",
        };
        for (String text : right) {
            DUE.is("check of '" + text + "'", checkOf(text), 0);
        }
    }

    private static int checkOf(String text) {
        return Due.check(new BlameDesk(), text);
    }

    private static void checkKeepsToTheDepth() {
        DUE.is("20 deep", checkOf("$".repeat(19) + "7"), 0);
        DUE.is("21 deep", checkOf("$".repeat(20) + "7"), 1);
        DUE.is("21 deep with an error", checkOf("$".repeat(20) + "x"), 1);
        DUE.is("type 20 deep", checkOf("\\x:" + "&".repeat(18) + "i.1"), 0);
        DUE.is("type 21 deep", checkOf("\\x:" + "&".repeat(19) + "i.1"), 1);
        DUE.is("second type 20 deep", checkOf("\\x:" + "(i>".repeat(18) + "i" + ")".repeat(18) + ".1"), 0);
        DUE.is("second type 21 deep", checkOf("\\x:" + "(i>".repeat(19) + "i" + ")".repeat(19) + ".1"), 1);
        DUE.is("first type 20 deep", checkOf("\\x:" + "(".repeat(18) + "i" + ">i)".repeat(18) + ".1"), 0);
        DUE.is("first type 21 deep", checkOf("\\x:" + "(".repeat(19) + "i" + ">i)".repeat(19) + ".1"), 1);
        DUE.is("type of a cast 20 deep", checkOf("$".repeat(18) + "<1:?>"), 0);
        DUE.is("type of a cast 21 deep", checkOf("$".repeat(18) + "<1:&?>"), 1);
        DUE.is("cast 20 deep", checkOf("$".repeat(19) + "<1:?>"), 1);
        DUE.is("last part 21 deep", checkOf("$".repeat(18) + "[T?1:$1]"), 1);
        DUE.is("body 21 deep", checkOf("@".repeat(19) + "\\x:i.1"), 1);
        DUE.is("function 19 deep", checkOf("@".repeat(18) + "\\x:i.1"), 0);
    }

    private static void checkEmptiesAndForgets() {
        String ran = "{$5+!@(\\x:i.x 1)}";
        for (String next : new String[] {"1", "1234", "x", ""}) {
            BlameDesk desk = Due.desk(ran);
            DUE.is("run of " + ran, desk.run(1), 1);
            int answer = Due.check(desk, next);
            DUE.is("check of '" + next + "'", answer, next.equals("1") ? 0 : next.equals("x") ? 2 : 1);
            nothingHasBeenRun("behind check of '" + next + "'", desk);
            if (answer != 0) {
                nothingIsThere("behind check of '" + next + "'", desk);
            }
            DUE.is("check of the text emptied by '" + next + "'", desk.check(), 1);
            DUE.is("check of another one", Due.check(desk, "T"), 0);
            DUE.is("type of another one", desk.type(0), 'b');
        }
        BlameDesk blaming = Due.desk("<<1:?>:b>");
        blaming.run(0);
        Due.check(blaming, "1");
        DUE.is("blame is forgotten", blaming.blamed(), -1);
    }

    // Promise 4

    private static void positionOfErrors() {
        errorAt("x", 0);
        errorAt("\\x:i.y", 5);
        errorAt("(\\x:i.x x)", 8);
        errorAt("\\y:?.\\x:i.\\z:i.{x+{y+w}}", 21);
        errorAt("(T 1)", 1);
        errorAt("(1 T)", 1);
        errorAt("(@1 2)", 1);
        errorAt("(\\x:i.x T)", 8);
        errorAt("(\\x:(i>?).x \\y:b.y)", 12);
        errorAt("(\\x:&i.x @T)", 9);
        errorAt("(1=2)", 1);
        errorAt("(\\x:i.x=2)", 1);
        errorAt("(@1=T)", 4);
        errorAt("(@\\x:i.x=@1)", 9);
        errorAt("{1+T}", 3);
        errorAt("{T+1}", 1);
        errorAt("{T-F}", 1);
        errorAt("{1<@1}", 3);
        errorAt("[1?2:3]", 1);
        errorAt("[1?2:T]", 1);
        errorAt("[T?1:F]", 5);
        errorAt("[T?@1:@<T:i>]", 8);
        errorAt("!1", 1);
        errorAt("!\\x:i.x", 1);
        errorAt("$T", 1);
        errorAt("$@1", 1);
        errorAt("<1:b>", 1);
        errorAt("<\\x:i.x:(b>?)>", 1);
        errorAt("<@1:&b>", 1);
        errorAt("<@@1:&&b>", 1);
        errorAt("<1:&?>", 1);
        // All parts come before what is said of them together.
        errorAt("(1 x)", 3);
        errorAt("(1=!2)", 4);
        errorAt("{T+x}", 3);
        errorAt("[1?2:x]", 5);
        errorAt("[1?x:y]", 3);
        errorAt("(x y)", 1);
        errorAt("<{1+T}:b>", 4);
        errorAt("{{1+T}+x}", 4);
        errorAt("(\\x:i.{x+T} F)", 9);
    }

    private static void errorAt(String text, int position) {
        BlameDesk desk = new BlameDesk();
        DUE.is("check of " + text, Due.check(desk, text), 2);
        DUE.is("position in " + text, desk.position(), position);
    }

    private static void positionOtherwise() {
        BlameDesk desk = new BlameDesk();
        DUE.is("position in a new object", desk.position(), -1);
        Due.check(desk, "{1+T}");
        Due.write(desk, "1");
        desk.run(1);
        DUE.is("position stays until the next check", desk.position(), 3);
        desk.check();
        DUE.is("position behind 0", desk.position(), -1);
        Due.check(desk, "{1+T}");
        DUE.is("position behind 2", desk.position(), 3);
        Due.check(desk, "{1+");
        DUE.is("position behind 1", desk.position(), -1);
    }

    // Promise 5

    private static void types() {
        hasType("1", "i");
        hasType("T", "b");
        hasType("<1:?>", "?");
        hasType("\\x:?.x", "(?>?)");
        hasType("\\x:(i>b).\\y:&?.@x", "((i>b)>(&?>&(i>b)))");
        hasType("\\x:i.\\x:b.x", "(i>(b>b))");
        hasType("\\x:i.\\y:b.x", "(i>(b>i))");
        hasType("(\\x:i.@T 1)", "&b");
        hasType("(\\x:i.x <1:?>)", "i");
        hasType("\\f:?.(f 1)", "(?>?)");
        hasType("(@<1:?>=2)", "?");
        hasType("(@1=<2:?>)", "i");
        hasType("\\c:?.(c=2)", "(?>?)");
        hasType("{1+2}", "i");
        hasType("{1-2}", "i");
        hasType("{1<2}", "b");
        hasType("[T?1:<2:?>]", "i");
        hasType("[T?<1:?>:2]", "?");
        hasType("[<T:?>?\\x:?.1:\\x:i.x]", "(?>i)");
        hasType("!@T", "b");
        hasType("\\c:?.!c", "(?>?)");
        hasType("<\\x:i.x:(?>i)>", "(?>i)");
        hasType("$<1:?>", "i");
        hasType("@".repeat(19) + "1", "&".repeat(19) + "i");
        // As high and as long as a type can be.
        hasType("\\x:" + "&".repeat(18) + "i." + "@".repeat(18) + "x", "(" + "&".repeat(18) + "i>" + "&".repeat(36) + "i)");
        String function = "((i>b)>(i>(i>(i>(i>(i>(i>(i>(i>(i>(i>(i>i))))))))))))";
        hasType("\\x:" + function + ".\\y:" + "&".repeat(16) + "i.x", "(" + function + ">(" + "&".repeat(16) + "i>" + function + "))");
    }

    private static void hasType(String text, String type) {
        BlameDesk desk = new BlameDesk();
        DUE.is("check of " + text, Due.check(desk, text), 0);
        for (int k = 0; k < type.length(); k++) {
            DUE.is("type(" + k + ") of " + text, desk.type(k), type.charAt(k));
        }
        for (int k : new int[] {-1, type.length(), type.length() + 1, Integer.MAX_VALUE, Integer.MIN_VALUE}) {
            DUE.is("type(" + k + ") of " + text, desk.type(k), -1);
        }
    }

    // Promise 6

    private static final String LOOP = "(\\x:?.(x x) \\x:?.(x x))";

    private static void runEnds() {
        DUE.is("a value", Due.desk("1").run(0), 1);
        DUE.is("blame", Due.desk("<<1:?>:b>").run(0), 2);
        DUE.is("no fuel", Due.desk(LOOP).run(40), 3);
        DUE.is("no room", Due.desk(CELLS).run(40), 4);
        BlameDesk desk = Due.desk("(\\c:&i.{$!c+(c={!c+1})} @1)");
        for (int i = 0; i < 3; i++) {
            DUE.is("run from the beginning", desk.run(1), 1);
            DUE.is("result from the beginning", desk.result(1), 3);
            DUE.is("output from the beginning", desk.output(-1), 1);
            DUE.is("stored from the beginning", desk.stored(), 1);
            DUE.is("calls from the beginning", desk.calls(), 1);
        }
    }

    private static void runRefuses() {
        BlameDesk desk = Due.desk("{$(\\x:i.x 7)+!@1}");
        for (int round = 0; round < 2; round++) {
            for (int fuel : new int[] {-1, 41, Integer.MAX_VALUE, Integer.MIN_VALUE}) {
                DUE.is("run(" + fuel + ")", desk.run(fuel), -1);
            }
            if (round == 0) {
                nothingHasBeenRun("behind runs refused", desk);
                DUE.is("run(40)", desk.run(40), 1);
            }
        }
        DUE.is("result stays", desk.result(1), 8);
        DUE.is("output stays", desk.output(0), 7);
        DUE.is("calls stay", desk.calls(), 1);
        DUE.is("stored stays", desk.stored(), 1);
        BlameDesk blaming = Due.desk("<<1:?>:b>");
        blaming.run(0);
        blaming.run(41);
        DUE.is("blamed stays", blaming.blamed(), 0);
    }

    private static void runKeepsToFuel() {
        for (int fuel = 0; fuel <= 40; fuel++) {
            BlameDesk desk = Due.desk(LOOP);
            DUE.is("run(" + fuel + ") of the loop", desk.run(fuel), 3);
            DUE.is("calls of the loop", desk.calls(), fuel);
        }
        BlameDesk deep = Due.desk("(\\x:?.(x x) \\x:?." + "$".repeat(16) + "(x x))");
        DUE.is("as many waiting expressions as there can be", deep.run(40), 3);
        DUE.is("calls of the deep loop", deep.calls(), 40);
        BlameDesk two = Due.desk("(\\x:i.x (\\x:i.x 1))");
        DUE.is("two calls with 1", two.run(1), 3);
        DUE.is("two calls with 2", two.run(2), 1);
        BlameDesk cast = Due.desk("(<\\x:i.x:(?>i)> T)");
        DUE.is("casts of the argument come before the fuel", cast.run(0), 2);
        BlameDesk free = Due.desk("(<<\\x:i.x:(?>i)>:(i>?)> 1)");
        DUE.is("functions of casts take no fuel", free.run(1), 1);
        DUE.is("functions of casts count no calls", free.calls(), 1);
    }

    // Five cells in each round, which is one call of x and one of \\u.
    private static final String CELLS = "(\\x:?.(x x) \\x:?.(\\u:i.(x x) !@!@!@!@!@1))";

    private static void runKeepsToCells() {
        BlameDesk desk = Due.desk(CELLS);
        DUE.is("forty cells", desk.run(17), 3);
        DUE.is("forty cells stored", desk.stored(), 40);
        DUE.is("one cell more", desk.run(18), 4);
        DUE.is("one cell more is not stored", desk.stored(), 40);
        DUE.is("calls without room", desk.calls(), 18);
        DUE.is("no result without room", desk.result(0), -1);
        BlameDesk blaming = Due.desk("(\\x:?.(x x) \\x:?.(\\u:i.(x x) !@!@!@!@!@!@!@$1))");
        DUE.is("what is in a cell comes before it", blaming.run(40), 4);
        DUE.is("seven cells a round", blaming.stored(), 40);
        DUE.is("outputs before each round's cells", blaming.output(-1), 6);
    }

    // Ten cells of casts in each round, which is one call.
    private static final String CASTS = "(\\x:?.(x x) \\x:?.[{!" + "<".repeat(10) + "@1" + ":&?>:&i>".repeat(5) + "<0}?x:(x x)])";

    private static void runKeepsToCasts() {
        BlameDesk desk = Due.desk(CASTS);
        DUE.is("two hundred casts", desk.run(21), 3);
        DUE.is("two hundred casts: cells", desk.stored(), 20);
        DUE.is("one cast more", desk.run(22), 4);
        DUE.is("one cast more: calls", desk.calls(), 22);
        DUE.is("one cast more: cells", desk.stored(), 21);
        DUE.is("the casts are counted anew", desk.run(21), 3);
        // A function from ? to i is cast to ? before the first round, and takes the place of one.
        BlameDesk early = Due.desk("(\\x:?.(x x) \\x:?.{!" + "<".repeat(10) + "@1" + ":&?>:&i>".repeat(5) + "+(x x)})");
        DUE.is("one cast before", early.run(20), 3);
        DUE.is("one cast before, and one more", early.run(21), 4);
    }

    private static void orderOfWork() {
        ends("{<T:?>+$5}", 2, 0);
        ends("{$5+<T:?>}", 2, 1);
        ends("(<1:?> $5)", 2, 0);
        ends("(<1:?>=$5)", 2, 0);
        ends("(\\x:i.x $<$1:?>)", 1, 2);
        ends("[<1:?>?$1:$2]", 2, 0);
        ends("[T?$1:$2]", 1, 1);
        ends("\\x:i.$1", 1, 0);
        ends("$<T:?>", 2, 0);
        ends("@<$1:?>", 1, 1);
        BlameDesk desk = Due.desk("{$1+{$2-[{$3<$4}?$5:$6]}}");
        DUE.is("run of outputs", desk.run(0), 1);
        DUE.is("result of outputs", desk.result(1), -2);
        int[] late = {5, 4, 3, 2, 1};
        for (int k = 0; k < late.length; k++) {
            DUE.is("output " + k + " of outputs", desk.output(k), late[k]);
        }
    }

    private static void ends(String text, int ending, int outputs) {
        BlameDesk desk = Due.desk(text);
        DUE.is("run of " + text, desk.run(40), ending);
        DUE.is("outputs of " + text, desk.output(-1), outputs);
    }

    private static void scopes() {
        gives("((\\x:i.\\x:i.x 1) 2)", 0, 2, 0);
        gives("((\\x:i.\\y:i.x 1) 2)", 0, 1, 0);
        gives("(((\\x:i.\\y:i.\\z:i.{x-{y-z}} 100) 20) 3)", 0, 83, 0);
        gives("(\\f:(i>i).(\\x:i.(f 1) 50) (\\x:i.\\y:i.{x+y} 7))", 0, 8, 0);
        gives("(\\x:i.{(\\x:i.{x+1} {x+10})+x} 1)", 0, 13, 0);
        gives("{(\\x:i.x 1)+(\\y:i.(\\x:i.{x+y} 2) 3)}", 0, 6, 0);
    }

    // Promise 7

    private static void results() {
        gives("7", 0, 7, 0);
        gives("007", 0, 7, 0);
        gives("{0-1}", 0, -1, 0);
        gives("T", 1, 1, 0);
        gives("F", 1, 0, 0);
        gives("{1<2}", 1, 1, 0);
        gives("{2<2}", 1, 0, 0);
        gives("{{0-5}<3}", 1, 1, 0);
        gives("\\x:i.x", 2, 0, 0);
        gives("<\\x:i.x:(?>?)>", 2, 0, 0);
        gives("@5", 3, 0, 0);
        gives("<@5:&?>", 3, 0, 0);
        gives("<7:?>", 0, 7, 1);
        gives("<<0:?>:?>", 0, 0, 1);
        gives("<{0-9}:?>", 0, -9, 1);
        gives("<T:?>", 1, 1, 1);
        gives("<\\x:i.x:?>", 2, 0, 1);
        gives("<\\x:?.x:?>", 2, 0, 1);
        gives("<@5:?>", 3, 0, 1);
        gives("<<7:?>:i>", 0, 7, 0);
        gives("<<@5:?>:&i>", 3, 0, 0);
        gives("!<<@5:?>:&?>", 0, 5, 1);
        gives("!<<@5:&?>:&i>", 0, 5, 0);
        gives("(@1=5)", 0, 5, 0);
        gives("(@<1:?>=5)", 0, 5, 1);
        gives("(<@1:&?>=5)", 0, 5, 1);
        gives("(<@1:?>=5)", 0, 5, 1);
        gives("(\\c:&i.[{(<c:&?>=5)<9}?!c:0] @1)", 0, 5, 0);
        gives("(\\c:&?.[{(<c:&i>=5)<9}?!c:0] @<T:?>)", 0, 5, 1);
        gives("(\\x:?.x 5)", 0, 5, 1);
        gives("(<\\x:i.x:?> 5)", 0, 5, 1);
        gives("(<\\x:?.x:(i>i)> 5)", 0, 5, 0);
        gives("[F?1:<5:?>]", 0, 5, 0);
        gives("[F?<1:?>:5]", 0, 5, 1);
        gives("$<5:?>", 0, 5, 0);
        String eightfold = "\\x:i.{{{x+x}+{x+x}}+{{x+x}+{x+x}}}";
        gives("(\\a:(i>i)." + "(a ".repeat(8) + "999" + ")".repeat(8) + " " + eightfold + ")", 0, 999 << 24, 0);
        String less = "\\x:i.{x-{{0-{x+x}}-{x+x}}}";
        gives("(\\a:(i>i)." + "(a ".repeat(12) + "999" + ")".repeat(12) + " " + less + ")", 0, 999 * 244140625, 0);
    }

    private static void gives(String text, int kind, int number, int tagged) {
        BlameDesk desk = Due.desk(text);
        DUE.is("run of " + text, desk.run(40), 1);
        DUE.is("result(0) of " + text, desk.result(0), kind);
        DUE.is("result(1) of " + text, desk.result(1), number);
        DUE.is("result(2) of " + text, desk.result(2), tagged);
        DUE.is("blamed of " + text, desk.blamed(), -1);
    }

    private static void resultsOtherwise() {
        BlameDesk desk = Due.desk("1");
        nothingHasBeenRun("before a run", desk);
        desk.run(0);
        for (int what : new int[] {-1, 3, Integer.MAX_VALUE, Integer.MIN_VALUE}) {
            DUE.is("result(" + what + ")", desk.result(what), -1);
        }
        for (String text : new String[] {"<<1:?>:b>", LOOP, CELLS}) {
            BlameDesk without = Due.desk(text);
            without.run(40);
            for (int what = 0; what <= 2; what++) {
                DUE.is("result(" + what + ") of " + text, without.result(what), -1);
            }
        }
    }

    // Promise 8

    private static void blame() {
        blames("<<1:?>:b>", 0);
        blames("$<T:?>", 0);
        blames("$$<T:?>", 2);
        blames("{1+<T:?>}", 0);
        blames("{{1-2}<{1+<@1:?>}}", 14);
        blames("[<1:?>?1:2]", 0);
        blames("[F?1:<T:?>]", 0);
        blames("(<1:?> 2)", 0);
        blames("!<1:?>", 0);
        blames("!<\\x:i.x:?>", 0);
        blames("(<1:?>=2)", 0);
        blames("(\\x:i.x <T:?>)", 0);
        blames("(@1=<T:?>)", 0);
        blames("<<\\x:i.x:?>:&?>", 0);
        blames("<<@1:?>:(?>?)>", 0);
        // A function's argument is the other side's, what it gives is this side's.
        blames("(<\\x:i.x:(?>i)> <T:?>)", 3);
        blames("(<\\x:i.x:?> T)", 3);
        blames("(<\\x:?.x:(?>i)> T)", 2);
        blames("(<<\\x:?.T:?>:(i>i)> 1)", 2);
        // Twice turned it is this side's again.
        blames("(<\\f:(?>i).(f 1):((b>i)>i)> \\y:b.7)", 2);
        blames("(<\\f:(i>i).(f 1):((i>?)>i)> \\y:i.<T:?>)", 3);
        blames("(<\\f:(i>?).(f 1):((?>?)>?)> <\\y:b.7:?>)", 57);
        // A cell: read on this side, written on the other one.
        blames("!<@<T:?>:&i>", 2);
        blames("(<@1:&?>=T)", 3);
        blames("(<@1:?>=T)", 3);
        blames("(\\c:&?.[{(c=5)<9}?!<c:&b>:F] @<1:?>)", 2 * 19);
        blames("(!<@@1:&&?>=T)", 5);
        blames("(\\c:&&i.(\\u:&?.!!c (<c:&&?>=@<T:?>)) @@1)", 41);
        // The outermost casts the argument first, the innermost what is given.
        blames("(<<\\x:?.x:(i>?)>:(?>?)> T)", 3);
        blames("(<<\\x:i.x:(?>i)>:(b>i)> T)", 5);
        blames("(<<\\x:?.x:(?>i)>:(?>?)> T)", 4);
        blames("(<<\\x:?.x:(?>?)>:(?>i)> T)", 2);
        blames("!<<@<T:?>:&i>:&?>", 4);
        blames("(<<@<T:?>:&i>:&?>=F)", 3);
    }

    private static void blames(String text, int blamed) {
        BlameDesk desk = Due.desk(text);
        DUE.is("run of " + text, desk.run(40), 2);
        DUE.is("blamed of " + text, desk.blamed(), blamed);
    }

    private static void blameOtherwise() {
        for (String text : new String[] {"1", LOOP, CELLS}) {
            BlameDesk desk = Due.desk(text);
            DUE.is("blamed before a run of " + text, desk.blamed(), -1);
            desk.run(40);
            DUE.is("blamed of " + text, desk.blamed(), -1);
        }
        BlameDesk both = Due.desk("(<\\x:?.{x+1}:(i>i)> (\\y:i.<<T:?>:i> 1))");
        DUE.is("with fuel it is blame", both.run(1), 2);
        DUE.is("blamed with fuel", both.blamed(), 2 * 26);
        DUE.is("without fuel it is none", both.run(0), 3);
        DUE.is("blamed without fuel", both.blamed(), -1);
    }

    // Promise 9

    private static void outputs() {
        BlameDesk desk = Due.desk("{$1+{$2+<$3:?>}}");
        desk.run(0);
        int[] due = {3, 3, 2, 1, 0, 0};
        for (int k = -1; k < 5; k++) {
            DUE.is("output(" + k + ")", desk.output(k), due[k + 1]);
        }
        // The numbers 1 to 38, one in each round.
        BlameDesk many = Due.desk("(\\c:&i.(\\x:?.(x x) \\x:?.[{$(c={!c+1})<0}?x:(x x)]) @0)");
        DUE.is("run with many outputs", many.run(40), 3);
        DUE.is("how many outputs", many.output(-1), 38);
        for (int k = 0; k < 16; k++) {
            DUE.is("output(" + k + ") of many", many.output(k), 38 - k);
        }
        for (int k : new int[] {16, 17, -2, Integer.MAX_VALUE, Integer.MIN_VALUE}) {
            DUE.is("output(" + k + ") of many", many.output(k), 0);
        }
        many.run(4);
        DUE.is("how many outputs of the latest run", many.output(-1), 2);
        DUE.is("output(1) of the latest run", many.output(1), 1);
        DUE.is("output(2) of the latest run", many.output(2), 0);
        BlameDesk blaming = Due.desk("{$5+<T:?>}");
        blaming.run(0);
        DUE.is("output of a run with blame", blaming.output(0), 5);
        BlameDesk negative = Due.desk("${0-4}");
        negative.run(0);
        DUE.is("negative output", negative.output(0), -4);
    }

    // Promise 10

    private static void calls() {
        BlameDesk desk = Due.desk("(\\f:(i>i).{(f 1)+(f 2)} <\\x:?.x:(i>i)>)");
        DUE.is("calls before a run", desk.calls(), 0);
        desk.run(40);
        DUE.is("calls", desk.calls(), 3);
        desk.run(2);
        DUE.is("calls without fuel", desk.calls(), 2);
        BlameDesk blaming = Due.desk("(\\x:i.{x+<T:?>} (\\y:i.y 1))");
        blaming.run(40);
        DUE.is("calls with blame", blaming.calls(), 2);
        BlameDesk early = Due.desk("(<\\x:i.x:?> T)");
        early.run(40);
        DUE.is("calls with blame before the call", early.calls(), 0);
    }

    // Promise 11

    private static void stored() {
        BlameDesk desk = Due.desk("(\\c:&i.{(c=2)+{!<c:&?>+!@3}} @1)");
        DUE.is("stored before a run", desk.stored(), 0);
        desk.run(40);
        DUE.is("stored", desk.stored(), 2);
        desk.run(0);
        DUE.is("stored without fuel", desk.stored(), 1);
        BlameDesk blaming = Due.desk("{!@1+{<T:?>+!@2}}");
        blaming.run(0);
        DUE.is("stored with blame", blaming.stored(), 1);
        BlameDesk nested = Due.desk("@@@1");
        nested.run(0);
        DUE.is("stored in one another", nested.stored(), 3);
    }
}
