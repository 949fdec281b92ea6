/** Counts and prints the answers that are not due, for the tests beside it. */
final class Check {
    private int wrong;
    private int checked;
    private String about = "";

    /** A call of the program, to be made where the check wants it. */
    interface Call {
        long answer();
    }

    void about(String what) {
        about = what;
    }

    void due(String call, long got, long want) {
        checked++;
        if (got != want) {
            wrong++;
            System.out.println(about + ": " + call + " answered " + got + ", due is " + want);
        }
    }

    void that(String what, boolean holds) {
        checked++;
        if (!holds) {
            wrong++;
            System.out.println(about + ": " + what);
        }
    }

    /** Which of STATUS's counts a call must raise: 0 BAD, 1 NO, 2 FULL, NONE none of them. */
    void refused(TiedThrees x, String call, Call it, long want, int raised) {
        long digest = x.digest();
        long above = x.part(0);
        long below = x.part(1);
        int[] ahead = {x.status(0), x.status(1), x.status(2)};
        due(call, it.answer(), want);
        for (int what = 0; what < 3; what++) {
            due("status(" + what + ") behind " + call, x.status(what), ahead[what] + (what == raised ? 1 : 0));
        }
        due("digest() behind " + call, x.digest(), digest);
        due("part(0) behind " + call, x.part(0), above);
        due("part(1) behind " + call, x.part(1), below);
    }

    void bad(TiedThrees x, String call, Call it) {
        refused(x, call, it, TiedThrees.BAD, 0);
    }

    void bad(TiedThrees x, String call, Call it, long want) {
        refused(x, call, it, want, 0);
    }

    void no(TiedThrees x, String call, Call it) {
        refused(x, call, it, TiedThrees.NO, 1);
    }

    void full(TiedThrees x, String call, Call it) {
        refused(x, call, it, TiedThrees.FULL, 2);
    }

    static void type(TiedThrees x, String text) {
        for (int i = 0; i < text.length(); i++) {
            x.type(text.charAt(i), 1);
        }
    }

    /** Types a text into an empty TEXT and reads it. */
    static int read(TiedThrees x, String text) {
        x.clear();
        type(x, text);
        return x.read();
    }

    void end(String name) {
        System.out.println(name + ": " + checked + " checks, " + wrong + " wrong");
        if (wrong != 0) {
            System.exit(1);
        }
    }
}
