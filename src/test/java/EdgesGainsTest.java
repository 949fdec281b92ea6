/** The edges of promises 14 to 21: gains, shares, weeks, secrets, the rope. A test for each sentence. */
public final class EdgesGainsTest {
    private static final Check C = new Check();
    private static final Twins NEW = new Twins(C, "a new object", Towns::nothing);
    private static final Twins SOME = new Twins(C, "some of all", Towns::some);
    private static final Twins FULL = new Twins(C, "all that there is room for", Towns::full);
    private static final int NONE = TiedThrees.NONE;

    public static void main(String[] args) {
        Sentences.run(EdgesGainsTest.class, C, 14, 21);
    }

    /** An object with the GAINS of 1, 2, .. as told. */
    private static TiedThrees gains(int... gains) {
        TiedThrees x = new TiedThrees();
        for (int i = 0; i < gains.length; i++) {
            x.gain(i + 1, gains[i]);
        }
        return x;
    }

    // ---- promise 14

    @Says(promise = 14, text = "of sets of three partners 0, 1, 2 (1 .. 7, bits; 0 .. 99 each, 0 at first): what it was")
    static void leastAndMostGain() {
        TiedThrees x = new TiedThrees();
        for (int set = 1; set <= 7; set++) {
            C.due("gain(" + set + ", 99)", x.gain(set, 99), 0);
        }
        for (int set = 7; set >= 1; set--) {
            C.due("gain(" + set + ", 0)", x.gain(set, 0), 99);
            C.due("gain(" + set + ", 1)", x.gain(set, 1), 0);
        }
        for (int set = 1; set <= 7; set++) {
            C.due("gain(" + set + ", 1) again", x.gain(set, 1), 1);
        }
    }

    @Says(promise = 14, text = "BAD: a number is not as told")
    static void gainBad() {
        for (Twins town : new Twins[] {NEW, SOME, FULL}) {
            town.badBeyond(1, 7, "gain(set, 0)", (x, set) -> x.gain(set, 0));
            town.badBeyond(1, 7, "gain(set, 99)", (x, set) -> x.gain(set, 99));
            town.badBeyond(0, 99, "gain(1, v)", (x, v) -> x.gain(1, v));
            town.badBeyond(0, 99, "gain(7, v)", (x, v) -> x.gain(7, v));
            town.bad("gain(-1, 0)", x -> x.gain(-1, 0));
        }
    }

    @Says(promise = 14, text = "GAIN of a set: of that one alone")
    static void gainOfOneSet() {
        TiedThrees x = gains(1, 2, 3, 4, 5, 6, 7);
        x.gain(4, 44);
        int[] due = {1, 2, 3, 44, 5, 6, 7};
        for (int set = 1; set <= 7; set++) {
            C.due("gain(" + set + ", 0)", x.gain(set, 0), due[set - 1]);
        }
    }

    // ---- promise 15

    private static void leavesIs(TiedThrees x, int a, int b, int c, int due) {
        C.due("leaves(" + a + ", " + b + ", " + c + ")", x.leaves(a, b, c), due);
    }

    @Says(promise = 15, text = "by shares x, y, z (0 .. 99 each); BAD")
    static void leavesBad() {
        for (Twins town : new Twins[] {NEW, SOME, FULL}) {
            town.badBeyond(0, 99, "leaves(x, 0, 0)", (x, v) -> x.leaves(v, 0, 0));
            town.badBeyond(0, 99, "leaves(0, y, 0)", (x, v) -> x.leaves(0, v, 0));
            town.badBeyond(0, 99, "leaves(0, 0, z)", (x, v) -> x.leaves(0, 0, v));
        }
        // together these would be what 7 gains
        gainsOf7(75).bad("leaves(100, -25, 0)", x -> x.leaves(100, -25, 0));
        gainsOf7(0).bad("leaves(-1, 1, 0)", x -> x.leaves(-1, 1, 0));
        gainsOf7(0).bad("leaves(MIN, MIN, 0)", x -> x.leaves(Integer.MIN_VALUE, Integer.MIN_VALUE, 0));
        gainsOf7(99).asked("leaves(99, 0, 0)", x -> x.leaves(99, 0, 0), NONE);
        gainsOf7(99).asked("leaves(0, 99, 0)", x -> x.leaves(0, 99, 0), NONE);
        gainsOf7(99).asked("leaves(0, 0, 99)", x -> x.leaves(0, 0, 99), NONE);
    }

    private static Twins gainsOf7(int v) {
        return NEW.behind("7 gains " + v, x -> x.gain(7, v));
    }

    @Says(promise = 15, text = "if together they are not the GAIN of 7: 7")
    static void sharesThatAreNotAll() {
        leavesIs(new TiedThrees(), 0, 0, 0, NONE);
        leavesIs(new TiedThrees(), 1, 0, 0, 7);
        leavesIs(new TiedThrees(), 99, 99, 99, 7);
        TiedThrees x = gains(0, 0, 0, 0, 0, 0, 60);
        leavesIs(x, 20, 20, 20, NONE);
        leavesIs(x, 20, 20, 19, 7);
        leavesIs(x, 20, 20, 21, 7);
        leavesIs(x, 21, 20, 20, 7);
        leavesIs(x, 20, 21, 20, 7);
        leavesIs(gains(99, 99, 99, 99, 99, 99, 99), 33, 33, 34, 7);
    }

    @Says(promise = 15, text = "the first set (1 .. 6, rising) whose shares are less than its GAIN; none")
    static void firstSetThatLeaves() {
        int[] share = {20, 30, 40};
        for (int set = 1; set <= 6; set++) {
            int together = 0;
            for (int partner = 0; partner < 3; partner++) {
                together += (set >> partner & 1) * share[partner];
            }
            TiedThrees x = gains(0, 0, 0, 0, 0, 0, 90);
            x.gain(set, together - 1);
            leavesIs(x, 20, 30, 40, NONE);
            x.gain(set, together);
            leavesIs(x, 20, 30, 40, NONE);
            x.gain(set, together + 1);
            leavesIs(x, 20, 30, 40, set);
        }
        // from 6 down more and more of them would leave: the least is told
        TiedThrees x = gains(0, 0, 0, 0, 0, 0, 90);
        for (int set = 6; set >= 1; set--) {
            x.gain(set, 99);
            leavesIs(x, 20, 30, 40, set);
        }
        leavesIs(gains(20, 30, 50, 40, 60, 70, 90), 20, 30, 40, NONE);
    }

    // ---- promise 16

    private static void fairIs(TiedThrees x, int partner, long above, long below) {
        C.due("fair(" + partner + ")", x.fair(partner), 1);
        C.due("part(0)", x.part(0), above);
        C.due("part(1)", x.part(1), below);
    }

    @Says(promise = 16, text = "FAIR of a partner (0, 1, 2); BAD")
    static void fairBad() {
        for (Twins town : new Twins[] {NEW, SOME, FULL}) {
            town.badBeyond(0, 2, "fair", (x, partner) -> x.fair(partner));
        }
        for (int partner = 0; partner <= 2; partner++) {
            fairIs(new TiedThrees(), partner, 0, 1);
        }
    }

    @Says(promise = 16, text = "what he adds in the mean, over all orders in which they come: the most and the least")
    static void leastAndMostFair() {
        int[][] with = {{1, 3, 5, 7}, {2, 3, 6, 7}, {4, 5, 6, 7}};
        for (int partner = 0; partner < 3; partner++) {
            TiedThrees most = new TiedThrees();
            TiedThrees least = gains(99, 99, 99, 99, 99, 99, 99);
            for (int set : with[partner]) {
                most.gain(set, 99);
                least.gain(set, 0);
            }
            fairIs(most, partner, 99, 1);
            fairIs(least, partner, -66, 1);
        }
    }

    @Says(promise = 16, text = "over all orders: each set by itself, for each partner, in lowest terms")
    static void fairOfEachSet() {
        // sixths that a GAIN of 1 adds: alone he comes first in two orders, second to another one in one, last in two
        int[][] sixths = {{2, -1, 1, -1, 1, -2, 2}, {-1, 2, 1, -1, -2, 1, 2}, {-1, -1, -2, 2, 1, 1, 2}};
        for (int partner = 0; partner < 3; partner++) {
            for (int set = 1; set <= 7; set++) {
                for (int v = 1; v <= 6; v++) {
                    TiedThrees x = new TiedThrees();
                    x.gain(set, v);
                    int sum = sixths[partner][set - 1] * v;
                    int common = common(Math.abs(sum), 6);
                    fairIs(x, partner, sum / common, 6 / common);
                }
            }
        }
    }

    private static int common(int a, int b) {
        return a == 0 ? b : common(b % a, a);
    }

    @Says(promise = 16, text = "lowest terms, below above 0 (above may be below 0); 0 by 1")
    static void lowestTerms() {
        TiedThrees x = gains(1, 0, 0, 0, 0, 0, 1);
        fairIs(x, 1, 1, 6);
        fairIs(x, 0, 2, 3);
        x.gain(1, 0);
        fairIs(x, 0, 1, 3);
        x.gain(7, 0);
        fairIs(x, 0, 0, 1);
        x.gain(1, 1);
        fairIs(x, 1, -1, 6);
        x.gain(1, 2);
        fairIs(x, 1, -1, 3);
        x.gain(1, 3);
        fairIs(x, 1, -1, 2);
        x.gain(1, 6);
        fairIs(x, 1, -1, 1);
        x.gain(1, 9);
        fairIs(x, 1, -3, 2);
        x.gain(1, 0);
        fairIs(x, 1, 0, 1);
    }

    @Says(promise = 16, text = "FAIR of a partner is THE FRACTION: that changes, and nothing else")
    static void fairChangesTheFractionAlone() {
        TiedThrees x = FULL.one();
        TiedThrees y = FULL.one();
        x.fair(0);
        C.that("THE FRACTION is another", x.part(0) != y.part(0) || x.part(1) != y.part(1));
        x.fair(2);
        C.due("digest()", x.digest(), y.digest());
        C.due("status(0)", x.status(0), 0);
    }

    // ---- promise 17

    @Says(promise = 17, text = "BAD: what is no THREE nor 0")
    static void weekOfNoThree() {
        int[] wrong = {1, 3, 15, 8, 9, 10, 12, 11, 14, 56, 448, 7 | 512, -1, -7, Integer.MIN_VALUE, Integer.MIN_VALUE | 3, Integer.MAX_VALUE, 7 << 29};
        for (int set : wrong) {
            SOME.bad("week(" + set + ", 0, 0)", x -> x.week(set, 0, 0));
            SOME.bad("week(0, " + set + ", 0)", x -> x.week(0, set, 0));
            SOME.bad("week(0, 0, " + set + ")", x -> x.week(0, 0, set));
        }
        NEW.bad("week(7, 0, 0)", x -> x.week(7, 0, 0));
        NEW.behind("two people", x -> Towns.people(x, 2)).bad("week(0, 7, 0)", x -> x.week(0, 7, 0));
        Twins eight = NEW.behind("eight people", x -> Towns.people(x, 8));
        eight.bad("week(7, 56, 448)", x -> x.week(7, 56, 448));
        C.due("week(7, 56, 448) of nine", NEW.behind("nine", x -> Towns.people(x, 9)).one().week(7, 56, 448), 0);
        C.due("week(7, 56, 0) of eight", eight.one().week(7, 56, 0), 0);
        C.due("week(224, 0, 0) of eight", eight.one().week(224, 0, 0), 0);
    }

    @Says(promise = 17, text = "BAD: .. one who is in two, too")
    static void weekWithOneInTwo() {
        Twins nine = NEW.behind("nine people", x -> Towns.people(x, 9));
        for (int p = 0; p < 3; p++) {
            int other = 1 << p | 8 | 16;
            nine.bad("week(7, " + other + ", 0)", x -> x.week(7, other, 0));
            nine.bad("week(7, 0, " + other + ")", x -> x.week(7, 0, other));
            nine.bad("week(0, 7, " + other + ")", x -> x.week(0, 7, other));
            nine.bad("week(448, 7, " + other + ")", x -> x.week(448, 7, other));
        }
        nine.bad("week(7, 7, 0)", x -> x.week(7, 7, 0));
        nine.bad("week(7, 7, 7)", x -> x.week(7, 7, 7));
        nine.bad("week(448, 56, 448)", x -> x.week(448, 56, 448));
    }

    @Says(promise = 17, text = "three THREES each (or 0: none)")
    static void weeksWithNoneOfThem() {
        TiedThrees x = NEW.behind("nine people", y -> Towns.people(y, 9)).one();
        C.due("week(0, 0, 0)", x.week(0, 0, 0), 0);
        C.due("week(7, 0, 0)", x.week(7, 0, 0), 1);
        C.due("week(0, 56, 0)", x.week(0, 56, 0), 2);
        C.due("week(0, 0, 448)", x.week(0, 0, 448), 3);
        C.due("week(448, 0, 7)", x.week(448, 0, 7), 4);
        C.due("week(7, 56, 448)", x.week(7, 56, 448), 5);
        C.due("knows(1, 6)", x.knows(1, 6), 7);
        C.due("week(0, 0, 0) of nobody", new TiedThrees().week(0, 0, 0), 0);
    }

    @Says(promise = 17, text = "WEEKS 0 .. 5, as they come: its number; FULL: 6")
    static void asManyWeeksAsThereIsRoomFor() {
        TiedThrees x = Towns.plain(3);
        for (int i = 0; i < 6; i++) {
            C.due("week(7, 0, 0)", x.week(7, 0, 0), i);
            C.due("count(3)", x.count(3), i + 1);
        }
        FULL.full("week(0, 0, 0)", y -> y.week(0, 0, 0));
        FULL.full("week(7, 56, 448)", y -> y.week(7, 56, 448));
        FULL.behind("a 7th refused", y -> y.week(0, 0, 0)).full("week(0, 0, 0)", y -> y.week(0, 0, 0));
    }

    @Says(promise = 17, text = "Refused .. the first of: BAD -2 .. FULL -4")
    static void weekBadAheadOfFull() {
        FULL.bad("week(1, 0, 0)", x -> x.week(1, 0, 0));
        FULL.bad("week(7, 7, 0)", x -> x.week(7, 7, 0));
        FULL.bad("week(0, 0, 7 << 9)", x -> x.week(0, 0, 7 << 9));
    }

    // ---- promise 18

    @Says(promise = 18, text = "No WEEKS: how many there were")
    static void looseOfNoneAndOfAll() {
        C.due("loose() of none", new TiedThrees().loose(), 0);
        C.due("loose() of one", SOME.one().loose(), 1);
        TiedThrees x = FULL.one();
        C.due("loose() of as many as there is room for", x.loose(), 6);
        C.due("count(3)", x.count(3), 0);
        C.due("loose() again", x.loose(), 0);
        C.due("week() behind it", x.week(7, 0, 0), 0);
        C.due("knows(1, 1)", x.knows(1, 1), 7);
        C.due("status(0)", x.status(0), 0);
    }

    @Says(promise = 18, text = "No WEEKS: all else stays")
    static void looseLeavesTheRest() {
        TiedThrees x = NEW.behind("six people, five sights", y -> {
            Towns.people(y, 6);
            for (int i = 0; i < 5; i++) {
                y.sight(i, i % 4, i);
            }
        }).one();
        long digest = x.digest();
        x.week(7, 56, 0);
        x.loose();
        C.due("digest()", x.digest(), digest);
    }

    // ---- promise 19

    @Says(promise = 19, text = "those (bits) who know a secret at first; behind k WEEKS (0 .. as many as there are); BAD")
    static void knowsBad() {
        NEW.badBeyond(0, 0, "knows(first, 0)", (x, first) -> x.knows(first, 0));
        NEW.badBeyond(0, 0, "knows(0, k)", (x, k) -> x.knows(0, k));
        SOME.badBeyond(0, 7, "knows(first, 1)", (x, first) -> x.knows(first, 1));
        SOME.badBeyond(0, 1, "knows(1, k)", (x, k) -> x.knows(1, k));
        FULL.badBeyond(0, 511, "knows(first, 6)", (x, first) -> x.knows(first, 6));
        FULL.badBeyond(0, 6, "knows(511, k)", (x, k) -> x.knows(511, k));
        FULL.behind("no weeks", TiedThrees::loose).badBeyond(0, 0, "knows(511, k)", (x, k) -> x.knows(511, k));
        FULL.asked("knows(0, 6)", x -> x.knows(0, 6), 0);
        FULL.asked("knows(511, 0)", x -> x.knows(511, 0), 511);
        FULL.asked("knows(511, 6)", x -> x.knows(511, 6), 511);
        NEW.asked("knows(0, 0)", x -> x.knows(0, 0), 0);
    }

    @Says(promise = 19, text = "in each WEEK of whose THREE one knows it, all know it then: who knows behind k WEEKS")
    static void knowsBehindEachWeek() {
        TiedThrees x = Towns.plain(9);
        x.week(7, 56, 448);
        x.week(0, 0, 0);
        x.week(1 << 2 | 1 << 3 | 1 << 4, 0, 1 << 0 | 1 << 1 | 1 << 8);
        x.week(0, 1 << 4 | 1 << 5 | 1 << 6, 0);
        int[] behind = {1, 7, 7, 7 | 1 << 3 | 1 << 4 | 1 << 8, 0b101111111};
        for (int k = 0; k <= 4; k++) {
            C.due("knows(1, " + k + ")", x.knows(1, k), behind[k]);
        }
        // the last one, who is told by nobody; and none who knows
        C.due("knows(128, 0)", x.knows(128, 0), 128);
        C.due("knows(128, 4)", x.knows(128, 4), 448 | 1 << 0 | 1 << 1 | 1 << 5 | 1 << 4);
        C.due("knows(0, 4)", x.knows(0, 4), 0);
        // those who are in no THREE know what they knew, and tell nobody
        TiedThrees y = Towns.plain(4);
        y.week(7, 0, 0);
        C.due("knows(8, 1)", y.knows(8, 1), 8);
        C.due("knows(12, 1)", y.knows(12, 1), 15);
    }

    // ---- promise 20

    @Says(promise = 20, text = "WHEN: BAD")
    static void whenBad() {
        NEW.badBeyond(0, -1, "when(0, person)", (x, p) -> x.when(0, p));
        SOME.badBeyond(0, 7, "when(first, 0)", (x, first) -> x.when(first, 0));
        SOME.badBeyond(0, 2, "when(1, person)", (x, p) -> x.when(1, p));
        FULL.badBeyond(0, 511, "when(first, 8)", (x, first) -> x.when(first, 8));
        FULL.badBeyond(0, 8, "when(511, person)", (x, p) -> x.when(511, p));
        FULL.asked("when(511, 8)", x -> x.when(511, 8), 0);
        FULL.asked("when(0, 0)", x -> x.when(0, 0), NONE);
    }

    @Says(promise = 20, text = "behind how many of them (0 .. ) one knows first; none")
    static void whenEachKnows() {
        TiedThrees none = Towns.plain(2);
        C.due("when(1, 0) without WEEKS", none.when(1, 0), 0);
        C.due("when(1, 1) without WEEKS", none.when(1, 1), NONE);
        C.due("when(0, 0) without WEEKS", none.when(0, 0), NONE);
        TiedThrees x = Towns.plain(9);
        x.week(0, 0, 0);
        x.week(7, 0, 0);
        x.week(0, 0, 0);
        x.week(0, 0, 0);
        x.week(1 << 2 | 1 << 3 | 1 << 4, 0, 0);
        x.week(1 << 4 | 1 << 5 | 1 << 8, 0, 0);
        int[] due = {0, 2, 2, 5, 5, 6, NONE, NONE, 6};
        for (int p = 0; p < 9; p++) {
            C.due("when(1, " + p + ")", x.when(1, p), due[p]);
            C.due("when(0, " + p + ")", x.when(0, p), NONE);
            C.due("when(511, " + p + ")", x.when(511, p), 0);
        }
        C.due("when(256, 4): behind the last", x.when(256, 4), 6);
        C.due("when(256, 3)", x.when(256, 3), NONE);
    }

    // ---- promise 21

    private static void ropeIs(int a, int b, int one, int two, int turn) {
        TiedThrees x = new TiedThrees();
        C.due("rope(" + a + ", " + b + ", 0)", x.rope(a, b, 0), one);
        C.due("rope(" + a + ", " + b + ", 1)", x.rope(a, b, 1), two);
        C.due("rope(" + a + ", " + b + ", 2)", x.rope(a, b, 2), turn);
    }

    @Says(promise = 21, text = "(strength a) .. (b; 1 .. 60 each) .. What one has (0), two have (1), the turn (2); BAD")
    static void ropeBad() {
        for (Twins town : new Twins[] {NEW, SOME, FULL}) {
            town.badBeyond(1, 60, "rope(a, 1, 0)", (x, a) -> x.rope(a, 1, 0));
            town.badBeyond(1, 60, "rope(1, b, 1)", (x, b) -> x.rope(1, b, 1));
            town.badBeyond(0, 2, "rope(60, 60, what)", (x, what) -> x.rope(60, 60, what));
            town.bad("rope(-1, 1, 0)", x -> x.rope(-1, 1, 0));
            town.bad("rope(1, -1, 0)", x -> x.rope(1, -1, 0));
        }
        FULL.asked("rope(1, 60, 0)", x -> x.rope(1, 60, 0), 1);
    }

    @Says(promise = 21, text = "is a side at 0 or less then, it has 0, and it ends")
    static void ropeEndsAtZero() {
        // one pulls: two at 1 would be at -1, two at 2 are at 0
        ropeIs(60, 1, 59, 0, 0);
        ropeIs(60, 2, 59, 0, 0);
        ropeIs(3, 1, 2, 0, 0);
        // two at 3 are at 1 then, and on: they pull (0 left, as one is at 57) or let go (1 less 0): 1 is left
        ropeIs(60, 3, 59, 1, 1);
        // one at 3 would be at 2 behind his pull, and at 0 behind that of two: so he lets go, and has 2
        ropeIs(3, 60, 2, 60, 0);
    }

    @Says(promise = 21, text = "or lets go: of what he has half, cut, is gone, and it ends")
    static void ropeLetGo() {
        // pulling leaves one at 1 nothing; half of 1, cut, is 0
        ropeIs(1, 1, 1, 1, 0);
        ropeIs(1, 60, 1, 60, 0);
        ropeIs(2, 60, 1, 60, 0);
        ropeIs(3, 60, 2, 60, 0);
        ropeIs(4, 60, 2, 60, 0);
    }

    @Says(promise = 21, text = "as alike: pulls")
    static void ropeAsAlike() {
        // one at 2: 1 by pulling (two are at 0 or less), 1 by letting go
        ropeIs(2, 1, 1, 0, 0);
        ropeIs(2, 2, 1, 0, 0);
        // one at 3: pulling leaves 2, as two let go then: at 1 they have 1 so and 0 by pulling; letting go leaves 2 too
        ropeIs(3, 3, 2, 1, 1);
        // one at 2, two at 4: behind his pull two at 2 pull (1, as by letting go), and he has nothing: he lets go
        ropeIs(2, 4, 1, 4, 0);
    }

    @Says(promise = 21, text = "one begins, then by turns .. the turn in which it ends (0 on): all strengths, 1 to 60")
    static void ropeOfAllStrengths() {
        TiedThrees x = new TiedThrees();
        int calls = 0;
        for (int a = 1; a <= 60; a++) {
            for (int b = 1; b <= 60; b++) {
                int[] due = pulled(a, b, 0);
                for (int what = 0; what <= 2; what++) {
                    C.due("rope(" + a + ", " + b + ", " + what + ")", x.rope(a, b, what), due[what]);
                    calls++;
                    if (calls == 512) {
                        x = new TiedThrees();
                        calls = 0;
                    }
                }
            }
        }
    }

    /** What one has, what two have, the turn of the end, when both do what is best for them from this turn on. */
    private static int[] pulled(int one, int two, int turn) {
        int mine = turn % 2;
        int[] letGo = {mine == 0 ? one - one / 2 : one, mine == 1 ? two - two / 2 : two, turn};
        int oneThen = Math.max(0, mine == 0 ? one - 1 : one - 2);
        int twoThen = Math.max(0, mine == 1 ? two - 1 : two - 2);
        boolean ends = oneThen == 0 || twoThen == 0;
        int[] behindPull = ends ? new int[] {oneThen, twoThen, turn} : pulled(oneThen, twoThen, turn + 1);
        return letGo[mine] > behindPull[mine] ? letGo : behindPull;
    }
}
