/** What the tests share: writing texts, comparing answers, and ending as the tests' form asks. */
final class Due {
    /** As many characters as a text can have: $ and sixteen sums around a number, which give 17 * 999. */
    static final String FULL_TEXT = "$" + "{999+".repeat(16) + "999" + "}".repeat(16);

    /** As long a text, with an error at its last position, 99. */
    static final String FULL_TEXT_WITH_ERROR = "\\a:&i.".repeat(4) + "\\a:i.".repeat(15) + "y";

    private int wrong;

    void is(String what, long got, long want) {
        if (got != want) {
            wrong++;
            System.out.println(what + " answered " + got + ", due is " + want);
        }
    }

    void is(String what, boolean got, boolean want) {
        is(what, got ? 1 : 0, want ? 1 : 0);
    }

    void end() {
        System.out.println(wrong == 0 ? "all answers are as due" : wrong + " answers are not as due");
        if (wrong != 0) {
            System.exit(1);
        }
    }

    /** The long that writes up to eight characters. */
    static long packed(String characters) {
        long w = 0;
        for (int i = 0; i < characters.length(); i++) {
            w = w << 8 | characters.charAt(i);
        }
        return w;
    }

    /** Writes a whole text; false as soon as a write answers so. */
    static boolean write(BlameDesk desk, String text) {
        for (int i = 0; i < text.length(); i += 8) {
            if (!desk.write(packed(text.substring(i, Math.min(i + 8, text.length()))))) {
                return false;
            }
        }
        return true;
    }

    /** What check answers for a text. */
    static int check(BlameDesk desk, String text) {
        write(desk, text);
        return desk.check();
    }

    /** A new object with a program that must be right. */
    static BlameDesk desk(String text) {
        BlameDesk desk = new BlameDesk();
        if (!write(desk, text) || desk.check() != 0) {
            throw new IllegalArgumentException("not a right program: " + text);
        }
        return desk;
    }
}
