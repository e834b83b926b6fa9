import java.util.Arrays;

/** Many made-up texts: every answer must be that of a second implementation. */
public final class ReferenceTest {
    private static final int TEXTS = 100000;
    private static final int TEXTS_AN_OBJECT = 3;

    private static final Due DUE = new Due();
    private static final int[] CHECKED = new int[3];
    private static final int[] ENDED = new int[5];

    public static void main(String[] args) {
        int many = args.length > 0 ? Integer.parseInt(args[0]) : TEXTS;
        Texts texts = new Texts(args.length > 1 ? Long.parseLong(args[1]) : 1);
        BlameDesk desk = new BlameDesk();
        for (int i = 0; i < many; i++) {
            if (i % TEXTS_AN_OBJECT == 0) {
                desk = new BlameDesk();
            }
            compare(desk, texts.next(), texts.below(41));
        }
        System.out.println("checks that answered 0, 1, 2: " + Arrays.toString(CHECKED));
        System.out.println("runs that answered 1, 2, 3, 4: " + Arrays.toString(Arrays.copyOfRange(ENDED, 1, 5)));
        // A test that meets too few of each would say little.
        for (int i = 0; i < CHECKED.length; i++) {
            DUE.is("many checks answered " + i, CHECKED[i] > many / 100, true);
        }
        for (int i = 1; i < ENDED.length; i++) {
            DUE.is("many runs answered " + i, ENDED[i] > many / 100, true);
        }
        DUE.end();
    }

    private static void compare(BlameDesk desk, String text, int fuel) {
        Reference reference = new Reference(text);
        DUE.is("write of " + text, Due.write(desk, text), true);
        int checked = desk.check();
        CHECKED[checked]++;
        DUE.is("check of " + text, checked, reference.answer);
        DUE.is("position in " + text, desk.position(), reference.error);
        for (int k = 0; k <= reference.type.length(); k++) {
            DUE.is("type(" + k + ") of " + text, desk.type(k), k < reference.type.length() ? reference.type.charAt(k) : -1);
        }
        DUE.is("calls before a run of " + text, desk.calls(), 0);
        if (checked != 0 || reference.answer != 0) {
            DUE.is("run of " + text, desk.run(fuel), -1);
            return;
        }
        compareRuns(desk, reference, text, 40);
        compareRuns(desk, reference, text, fuel);
    }

    private static void compareRuns(BlameDesk desk, Reference reference, String text, int fuel) {
        int ended = desk.run(fuel);
        ENDED[ended]++;
        String run = "run(" + fuel + ") of " + text;
        DUE.is(run, ended, reference.run(fuel));
        for (int what = 0; what <= 3; what++) {
            DUE.is("result(" + what + ") behind " + run, desk.result(what), reference.result(what));
        }
        DUE.is("blamed behind " + run, desk.blamed(), reference.blamed);
        for (int k = -1; k <= 16; k++) {
            DUE.is("output(" + k + ") behind " + run, desk.output(k), reference.output(k));
        }
        DUE.is("calls behind " + run, desk.calls(), reference.calls);
        DUE.is("stored behind " + run, desk.stored(), reference.stored);
    }
}
