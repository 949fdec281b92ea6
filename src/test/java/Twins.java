import java.util.ArrayList;
import java.util.List;

/** Two objects made alike, one of which gets a call more: where they differ then is what that call changed. */
final class Twins {
    /** The calls that bring an object where the twins are to begin. */
    interface Setup {
        void on(TiedThrees x);
    }

    interface Call {
        long on(TiedThrees x);
    }

    /** A call with one number left open. */
    interface CallWith {
        long on(TiedThrees x, int v);
    }

    private final Check check;
    private final String state;
    private final Setup setup;

    Twins(Check check, String state, Setup setup) {
        this.check = check;
        this.state = state;
        this.setup = setup;
    }

    Twins behind(String more, Setup then) {
        return new Twins(check, state + ", " + more, x -> {
            setup.on(x);
            then.on(x);
        });
    }

    TiedThrees one() {
        TiedThrees x = new TiedThrees();
        setup.on(x);
        return x;
    }

    void bad(String call, Call it) {
        refused(call, it, TiedThrees.BAD, 0);
    }

    void bad(String call, Call it, long want) {
        refused(call, it, want, 0);
    }

    void no(String call, Call it) {
        refused(call, it, TiedThrees.NO, 1);
    }

    void no(String call, Call it, long want) {
        refused(call, it, want, 1);
    }

    void full(String call, Call it) {
        refused(call, it, TiedThrees.FULL, 2);
    }

    /** A call that is not refused and changes nothing. */
    void asked(String call, Call it, long want) {
        refused(call, it, want, TiedThrees.NONE);
    }

    /** BAD for the numbers beside what is told, and for the farthest ones. */
    void badBeyond(int least, int greatest, String call, CallWith it) {
        badBeyond(least, greatest, call, it, TiedThrees.BAD);
    }

    void badBeyond(int least, int greatest, String call, CallWith it, long want) {
        for (int v : new int[] {least - 1, greatest + 1, Integer.MIN_VALUE, Integer.MAX_VALUE}) {
            bad(call + " with " + v, x -> it.on(x, v), want);
        }
    }

    /** The call answers so, counts as one more of BAD (0), NO (1), FULL (2), or of none, and changes nothing else. */
    private void refused(String call, Call it, long want, int counted) {
        String name = state + ": " + call;
        TiedThrees asked = one();
        TiedThrees left = one();
        check.due(name, it.on(asked), want);
        for (int what = 0; what < 3; what++) {
            int due = left.status(what) + (what == counted ? 1 : 0);
            check.due("status(" + what + ") behind " + name, asked.status(what), due);
        }
        List<Long> seen = seen(asked);
        List<Long> due = seen(left);
        for (int i = 0; i < due.size(); i++) {
            check.due("what is seen as number " + i + " behind " + name, seen.get(i), due.get(i));
        }
    }

    /** All that can be seen of an object but STATUS; what THE TEXT and the IMAGES keep comes last, as that changes it. */
    private static List<Long> seen(TiedThrees x) {
        List<Long> seen = new ArrayList<>();
        for (int what = 0; what <= 5; what++) {
            seen.add((long) x.count(what));
        }
        seen.add(x.digest());
        seen.add(x.part(0));
        seen.add(x.part(1));
        for (int three : new int[] {7, 56, 448, 73}) {
            seen.add((long) x.day(three, TiedThrees.NONE));
            seen.add((long) x.day(three, 9));
            seen.add((long) x.best(three));
        }
        seen.add((long) x.most(0));
        seen.add((long) x.lot(1, 0));
        seen.add((long) x.which(0, TiedThrees.NONE));
        seen.add((long) x.knows(1, 1));
        seen.add((long) x.read());
        seen.add(x.digest());
        for (int image = 0; image < 2; image++) {
            seen.add((long) x.from(image));
            seen.add(x.digest());
        }
        return seen;
    }
}
