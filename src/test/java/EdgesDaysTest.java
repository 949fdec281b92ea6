import java.util.Arrays;

/** The edges of promises 9 and 10: a day, the best one. A test for each sentence. */
public final class EdgesDaysTest {
    private static final Check C = new Check();
    private static final Twins NEW = new Twins(C, "a new object", Towns::nothing);
    private static final Twins SOME = new Twins(C, "some of all", Towns::some);
    private static final Twins FULL = new Twins(C, "all that there is room for", Towns::full);
    private static final int NONE = TiedThrees.NONE;
    private static final int PERSON = 0, HASTY = 1, STUBBORN = 2, KIND = 3, IDLE = 4;

    public static void main(String[] args) {
        Sentences.run(EdgesDaysTest.class, C, 9, 10);
    }

    /** A ring of so many PLACES, nobody. */
    private static TiedThrees ring(int places) {
        TiedThrees x = new TiedThrees();
        x.places(places);
        return x;
    }

    /** One more of PEOPLE, with ERRANDS told as PLACE, HOUR, PLACE, HOUR, .. */
    private static void add(TiedThrees x, int kind, int pace, int... errands) {
        int person = x.person(kind, pace);
        for (int i = 0; i < errands.length; i += 2) {
            x.errand(person, errands[i], errands[i + 1]);
        }
    }

    /** Three who are alike in all: what each wants all do. */
    private static TiedThrees alike(int places, int kind, int pace, int... errands) {
        TiedThrees x = ring(places);
        for (int i = 0; i < 3; i++) {
            add(x, kind, pace, errands);
        }
        return x;
    }

    /** Where they are as each HOUR ends; behind the last one told they stay there. */
    private static void dayIs(TiedThrees x, int three, int done, int... where) {
        C.due("day(" + three + ", NONE)", x.day(three, NONE), done);
        for (int hour = 0; hour <= 9; hour++) {
            C.due("day(" + three + ", " + hour + ")", x.day(three, hour), where[Math.min(hour, where.length - 1)]);
        }
    }

    // ---- promise 9: hours, the ring, paces

    @Says(promise = 9, text = "HOURS 0 .. 9: the last one, and the one behind it")
    static void lastHour() {
        // three IDLE ones go in odd HOURS alone: five steps, the last of them in HOUR 9
        dayIs(alike(6, IDLE, 1, 3, 9, 5, 9), 7, 6, 0, 1, 1, 2, 2, 3, 3, 4, 4, 5);
        dayIs(alike(6, IDLE, 1, 3, 9, 5, 8), 7, 3, 0, 1, 1, 2, 2, 3, 3, 4, 4, 4);
        // a sixth step would come too late
        dayIs(alike(6, IDLE, 1, 5, 9, 2, 9, 4, 9), 7, 6, 0, 5, 5, 0, 0, 1, 1, 2, 2, 3);
    }

    @Says(promise = 9, text = "they are at PLACE 0 ahead of it")
    static void startAtPlaceZero() {
        for (int places = 1; places <= 6; places++) {
            dayIs(alike(places, PERSON, 1), 7, 0, 0);
        }
        // at 0 ahead of HOUR 0 only: the ERRAND there is not DONE
        dayIs(alike(4, PERSON, 1, 1, 9, 0, 0), 7, 3, 1);
        dayIs(alike(4, PERSON, 1, 0, 0, 1, 9), 7, 6, 0, 1);
    }

    @Says(promise = 9, text = "nothing is DONE ahead of it")
    static void eachDayBeginsAnew() {
        TiedThrees x = alike(4, PERSON, 1, 1, 9);
        add(x, PERSON, 1, 1, 9);
        dayIs(x, 7, 3, 1);
        dayIs(x, 7, 3, 1);
        dayIs(x, 14, 3, 1);
        C.due("count(2)", x.count(2), 4);
    }

    @Says(promise = 9, text = "a ring: a step along it, by the shorter way (rising PLACES, if both are as long)")
    static void shorterWayRoundEachRing() {
        int[][] ways = {{2, 1, 1}, {3, 1, 1}, {3, 2, 2}, {4, 1, 1}, {4, 2, 1, 2}, {4, 3, 3}, {5, 1, 1}, {5, 2, 1, 2},
            {5, 3, 4, 3}, {5, 4, 4}, {6, 1, 1}, {6, 2, 1, 2}, {6, 3, 1, 2, 3}, {6, 4, 5, 4}, {6, 5, 5}};
        for (int[] way : ways) {
            int[] where = Arrays.copyOfRange(way, 2, way.length);
            dayIs(alike(way[0], PERSON, 4, way[1], 9), 7, 3, where);
        }
    }

    @Says(promise = 9, text = "a ring: from the last PLACE to 0 and from 0 to the last, as both ways are counted")
    static void roundTheEndOfTheRing() {
        dayIs(alike(6, PERSON, 1, 5, 0, 1, 9), 7, 6, 5, 0, 1);
        dayIs(alike(6, PERSON, 1, 5, 0, 2, 9), 7, 6, 5, 0, 1, 2);
        dayIs(alike(6, PERSON, 1, 5, 0, 3, 9), 7, 6, 5, 4, 3);
        dayIs(alike(6, PERSON, 1, 1, 0, 4, 9), 7, 6, 1, 2, 3, 4);
        dayIs(alike(6, PERSON, 1, 1, 0, 5, 9), 7, 6, 1, 0, 5);
        dayIs(alike(5, PERSON, 1, 4, 0, 1, 9), 7, 6, 4, 0, 1);
        dayIs(alike(5, PERSON, 1, 4, 0, 2, 9), 7, 6, 4, 3, 2);
        dayIs(alike(4, PERSON, 1, 3, 0, 1, 9), 7, 6, 3, 0, 1);
        dayIs(alike(3, PERSON, 1, 2, 0, 1, 9), 7, 6, 2, 1);
        dayIs(alike(2, PERSON, 1, 1, 0, 0, 9), 7, 6, 1, 0);
        dayIs(alike(6, PERSON, 5, 4, 0, 1, 9), 7, 6, 4, 0, 1);
        dayIs(alike(6, PERSON, 5, 2, 0, 5, 9), 7, 6, 2, 4, 5);
        dayIs(alike(3, PERSON, 5, 2, 0, 1, 9), 7, 6, 2, 1);
    }

    @Says(promise = 9, text = "a ring of one PLACE, of two")
    static void leastRings() {
        for (int kind = 0; kind <= 4; kind++) {
            dayIs(alike(1, kind, 9, 0, 0), 7, 3, 0);
            dayIs(alike(2, kind, 9, 0, 9), 7, 3, 0);
        }
        dayIs(alike(2, PERSON, 5, 1, 0), 7, 3, 1);
        dayIs(alike(2, PERSON, 9, 1, 0, 0, 1), 7, 6, 1, 0);
    }

    @Says(promise = 9, text = "and one more, if .. all three have a PACE of 5 at least")
    static void paceOfFive() {
        dayIs(alike(6, PERSON, 5, 3, 9), 7, 3, 2, 3);
        dayIs(alike(6, PERSON, 9, 4, 9), 7, 3, 4);
        dayIs(alike(6, PERSON, 4, 4, 9), 7, 3, 5, 4);
        for (int slow = 0; slow < 3; slow++) {
            TiedThrees x = ring(6);
            for (int i = 0; i < 3; i++) {
                add(x, PERSON, i == slow ? 4 : 9, 2, 9);
            }
            dayIs(x, 7, 3, 1, 2);
        }
        // a fourth one, who is slow, is not tied to them
        TiedThrees x = alike(6, PERSON, 5, 2, 9);
        add(x, PERSON, 1, 2, 9);
        dayIs(x, 7, 3, 2);
        dayIs(x, 11, 3, 1, 2);
    }

    @Says(promise = 9, text = "and one more, if they are not there yet; or stay, if they are there")
    static void noStepTooMany() {
        dayIs(alike(6, PERSON, 9, 1, 9), 7, 3, 1);
        dayIs(alike(6, PERSON, 9, 5, 9), 7, 3, 5);
        dayIs(alike(6, PERSON, 9, 3, 9), 7, 3, 2, 3);
        dayIs(alike(6, PERSON, 9, 0, 9), 7, 3, 0);
    }

    @Says(promise = 9, text = "They go a step towards it .., and one more: towards the same, there is no vote between")
    static void noVoteBetweenTwoSteps() {
        TiedThrees x = ring(6);
        add(x, PERSON, 5, 2, 9);
        add(x, PERSON, 5);
        add(x, PERSON, 5, 1, 9);
        // 2, 0 and 1: the least number's; were 1 asked again at PLACE 1, they would stay there
        dayIs(x, 7, 1, 2);
    }

    // ---- promise 9: what is done

    @Says(promise = 9, text = "all their ERRANDS at the PLACE where they are are DONE, whose HOUR is this one or later")
    static void hourOfAnErrand() {
        dayIs(alike(4, PERSON, 1, 0, 0), 7, 3, 0);
        dayIs(alike(4, PERSON, 1, 1, 0), 7, 3, 1);
        // they come to 2 in HOUR 1: what was to be done by HOUR 0 is not DONE there
        dayIs(alike(4, PERSON, 1, 2, 1, 2, 0), 7, 3, 1, 2);
        dayIs(alike(4, PERSON, 1, 2, 9, 2, 0, 2, 1, 2, 2), 7, 9, 1, 2);
        dayIs(alike(6, PERSON, 1, 3, 2, 3, 1), 7, 3, 1, 2, 3);
    }

    @Says(promise = 9, text = "Then all their ERRANDS: as many as there is room for, of all three, of no others")
    static void mostErrandsDone() {
        dayIs(alike(4, PERSON, 1, 0, 0, 0, 9, 1, 1, 1, 9), 7, 12, 0, 1);
        TiedThrees x = ring(4);
        for (int i = 0; i < 9; i++) {
            add(x, PERSON, 1, 0, 0, 0, 1, 0, 2, 0, 3);
        }
        dayIs(x, 7, 12, 0);
        dayIs(x, 448, 12, 0);
    }

    @Says(promise = 9, text = "at the PLACE where they are: not at one that they pass")
    static void passedBy() {
        dayIs(alike(4, PERSON, 5, 2, 9, 1, 0), 7, 3, 2);
        dayIs(alike(4, PERSON, 4, 2, 9, 1, 0), 7, 6, 1, 2);
    }

    @Says(promise = 9, text = "how many are DONE (hour = NONE): none, if there is nothing to do")
    static void nothingToDo() {
        for (int kind = 0; kind <= 4; kind++) {
            dayIs(alike(6, kind, 9), 7, 0, 0);
        }
        dayIs(FULL.behind("six places anew, nine people", x -> {
            x.places(6);
            Towns.people(x, 9);
        }).one(), 448, 0, 0);
    }

    // ---- promise 9: votes

    @Says(promise = 9, text = "that which two or three vote for")
    static void twoOfThree() {
        int[][] wishes = {{1, 3, 3}, {3, 1, 3}, {3, 3, 1}, {3, 3, 3}};
        int[] done = {2, 2, 2, 3};
        for (int i = 0; i < wishes.length; i++) {
            TiedThrees x = ring(4);
            for (int place : wishes[i]) {
                add(x, PERSON, 1, place, 0);
            }
            dayIs(x, 7, done[i], 3);
        }
    }

    @Says(promise = 9, text = "if there is one, else that of the one with the least number is theirs")
    static void leastNumberDecides() {
        int[][] wishes = {{1, 2, 3}, {1, 3, 2}, {2, 1, 3}, {2, 3, 1}, {3, 1, 2}, {3, 2, 1}, {1, 2, 0}, {3, 0, 1}};
        // on the way to 2 they are at 1 as HOUR 0 ends; then nobody has an OPEN one
        int[] whereThen = {1, 1, 1, 1, 3, 3, 1, 3};
        for (int i = 0; i < wishes.length; i++) {
            TiedThrees x = Towns.plain(6);
            for (int j = 0; j < 3; j++) {
                x.errand(3 + j, wishes[i][j], 0);
            }
            dayIs(x, 56, 1, whereThen[i]);
        }
    }

    @Says(promise = 9, text = "the one with the least number: by number, whatever the KIND")
    static void leastNumberOfMixedKinds() {
        TiedThrees x = ring(6);
        add(x, HASTY, 1, 5, 9, 1, 0);
        add(x, STUBBORN, 1, 5, 0);
        add(x, PERSON, 1, 3, 0);
        dayIs(x, 7, 2, 1, 0, 5);
    }

    @Says(promise = 9, text = "OPEN: an ERRAND that is not DONE, and its HOUR is this one or later")
    static void openUpToItsHour() {
        // to 2 by HOUR 0: OPEN in HOUR 0, over in HOUR 1
        dayIs(alike(4, PERSON, 1, 2, 0), 7, 0, 1);
        dayIs(alike(4, PERSON, 1, 2, 0, 0, 9), 7, 3, 1, 0);
        dayIs(alike(4, PERSON, 1, 2, 1), 7, 3, 1, 2);
        // HOUR 1 is enough for one step more towards 3, which is over in HOUR 2
        dayIs(alike(6, PERSON, 1, 3, 1), 7, 0, 1, 2);
        // DONE: no longer OPEN, so the next one counts
        dayIs(alike(4, PERSON, 1, 1, 9, 2, 9), 7, 6, 1, 2);
    }

    @Says(promise = 9, text = "0 PERSON: the PLACE of his first OPEN ERRAND; if there is none, where they are")
    static void personVotes() {
        dayIs(alike(4, PERSON, 1, 1, 9, 3, 0), 7, 3, 1);
        dayIs(alike(4, PERSON, 1, 3, 9, 1, 0), 7, 3, 3);
        dayIs(alike(6, PERSON, 1, 2, 9, 1, 9, 4, 9, 3, 9), 7, 12, 1, 2, 3, 4);
        dayIs(alike(4, PERSON, 1, 1, 0), 7, 3, 1);
    }

    @Says(promise = 9, text = "1 HASTY: .. that of the one with the least HOUR, of like ones the first; none: where they are")
    static void hastyVotes() {
        dayIs(alike(4, HASTY, 1, 2, 5, 1, 3, 3, 3), 7, 9, 1, 2, 3);
        dayIs(alike(4, HASTY, 1, 3, 3, 1, 3), 7, 6, 3, 0, 1);
        dayIs(alike(4, HASTY, 1, 3, 9, 1, 9), 7, 6, 3, 0, 1);
        dayIs(alike(4, HASTY, 1, 3, 9, 1, 8), 7, 6, 1, 2, 3);
        // 2 by HOUR 0 is the least one in HOUR 0, and over in HOUR 1
        dayIs(alike(4, HASTY, 1, 3, 9, 2, 0), 7, 3, 1, 2, 3);
        dayIs(alike(4, HASTY, 1, 1, 9), 7, 3, 1);
        dayIs(alike(4, HASTY, 1, 2, 0), 7, 0, 1);
    }

    @Says(promise = 9, text = "2 STUBBORN: the PLACE of his ERRAND 0, as long as it is not DONE, whatever its HOUR")
    static void stubbornVotes() {
        dayIs(alike(4, STUBBORN, 1, 2, 0, 1, 9), 7, 3, 1, 2);
        dayIs(alike(6, STUBBORN, 1, 3, 0, 0, 9), 7, 0, 1, 2, 3);
        dayIs(alike(6, STUBBORN, 1, 3, 9, 1, 0), 7, 6, 1, 2, 3);
    }

    @Says(promise = 9, text = "2 STUBBORN: .. else as a PERSON: ERRAND 0 is DONE, or he has none")
    static void stubbornOnesAsPersons() {
        dayIs(alike(4, STUBBORN, 1, 1, 0, 3, 9), 7, 6, 1, 2, 3);
        // ERRAND 1 is not gone for when it is over
        dayIs(alike(6, STUBBORN, 1, 1, 0, 4, 1, 0, 9), 7, 6, 1, 2, 1, 0);
        dayIs(alike(4, STUBBORN, 1), 7, 0, 0);
        TiedThrees x = alike(4, STUBBORN, 1, 2, 9);
        for (int p = 0; p < 3; p++) {
            x.drop(p);
        }
        dayIs(x, 7, 0, 0);
        // not outvoted, nobody votes for 0: one without ERRANDS stays where they are
        x = ring(4);
        add(x, STUBBORN, 1);
        add(x, PERSON, 1, 1, 0);
        add(x, PERSON, 1, 1, 0, 3, 9);
        dayIs(x, 7, 2, 1);
    }

    @Says(promise = 9, text = "3 KIND: as a PERSON, if he has an OPEN one")
    static void kindOnesWithAnOpenOne() {
        dayIs(alike(4, KIND, 1, 3, 9, 1, 0), 7, 3, 3);
        TiedThrees x = ring(4);
        add(x, PERSON, 1, 1, 9);
        add(x, KIND, 1, 3, 0);
        add(x, KIND, 1, 3, 0);
        // in HOUR 0 both have one, then none: they follow 0
        dayIs(x, 7, 3, 3, 0, 1);
    }

    @Says(promise = 9, text = "3 KIND: .. else what the one of both others with the lesser number would vote for")
    static void kindOnesFollowTheLesser() {
        int[][] kinds = {{KIND, PERSON, PERSON}, {PERSON, KIND, PERSON}, {PERSON, PERSON, KIND}};
        for (int[] kind : kinds) {
            TiedThrees x = ring(4);
            int wish = 3;
            for (int k : kind) {
                if (k == KIND) {
                    add(x, KIND, 1);
                } else {
                    add(x, PERSON, 1, wish, 0);
                    wish -= 2;
                }
            }
            dayIs(x, 7, 1, 3);
        }
    }

    @Says(promise = 9, text = "3 KIND: .. would vote for as a PERSON: whatever KIND that one is of, and if he has none OPEN, too")
    static void kindOnesAskForAPerson() {
        // 1 and 2 follow 0 as if he were a PERSON: to 2, then 3 in place of 1, the STUBBORN one's 2, or where they are
        TiedThrees x = ring(4);
        add(x, HASTY, 1, 3, 9, 1, 0);
        add(x, KIND, 1);
        add(x, KIND, 1);
        dayIs(x, 7, 1, 3);
        x = ring(4);
        add(x, STUBBORN, 1, 2, 0, 3, 9);
        add(x, KIND, 1);
        add(x, KIND, 1);
        dayIs(x, 7, 1, 1, 2, 3);
        x = ring(4);
        add(x, IDLE, 1, 1, 9);
        add(x, KIND, 1);
        add(x, KIND, 1);
        dayIs(x, 7, 1, 1);
        // 0 is KIND and would follow 1; as a PERSON he stays, and so does 2, who follows him
        x = ring(4);
        add(x, KIND, 1);
        add(x, PERSON, 1, 1, 9);
        add(x, KIND, 1);
        dayIs(x, 7, 1, 1);
        x = ring(4);
        add(x, KIND, 1);
        add(x, KIND, 1);
        add(x, PERSON, 1, 1, 9);
        dayIs(x, 7, 0, 0);
    }

    @Says(promise = 9, text = "4 IDLE: in even HOURS where they are; in odd ones as a KIND one")
    static void idleVotes() {
        dayIs(alike(4, IDLE, 1, 1, 0), 7, 0, 0);
        dayIs(alike(4, IDLE, 1, 1, 1), 7, 3, 0, 1);
        dayIs(alike(4, IDLE, 1, 2, 9), 7, 3, 0, 1, 1, 2);
        dayIs(alike(4, IDLE, 5, 2, 1), 7, 3, 0, 2);
        // without ERRANDS of their own 1 and 2 follow 0 in odd HOURS
        TiedThrees x = ring(4);
        add(x, PERSON, 1, 1, 9, 3, 9);
        add(x, IDLE, 1);
        add(x, IDLE, 1);
        dayIs(x, 7, 2, 0, 1, 1, 2, 2, 3);
        // 2 is IDLE and follows the lesser of the others, who has none OPEN
        x = ring(4);
        add(x, PERSON, 1);
        add(x, PERSON, 1, 1, 9);
        add(x, IDLE, 1);
        dayIs(x, 7, 0, 0);
    }

    /** Three PEOPLE behind some others: one of a KIND at his number among them, two PERSONS at those that are left. */
    private static TiedThrees mixed(int others, int number, int places, int kind, int[] his, int[] lesser, int[] greater) {
        TiedThrees x = ring(places);
        for (int i = 0; i < others; i++) {
            add(x, STUBBORN, 9, 2, 9, 2, 8, 2, 7, 2, 6);
        }
        for (int i = 0; i < 3; i++) {
            if (i == number) {
                add(x, kind, 1, his);
            } else {
                add(x, PERSON, 1, i == (number == 0 ? 1 : 0) ? lesser : greater);
            }
        }
        return x;
    }

    @Says(promise = 9, text = "VOTES by KINDS: each of the three by his own KIND and ERRANDS, the least ones of PEOPLE and the last")
    static void eachByHisOwnKind() {
        int[] none = {};
        for (int others = 0; others <= 6; others += 3) {
            int three = 7 << others;
            for (int number = 0; number < 3; number++) {
                int[] oneThenThree = {1, 9, 3, 0};
                dayIs(mixed(others, number, 4, PERSON, oneThenThree, new int[] {1, 0}, new int[] {3, 0}), three, 2, 1);
                dayIs(mixed(others, number, 4, HASTY, oneThenThree, new int[] {1, 0}, new int[] {3, 0}), three, 2, 3);
                // his ERRAND 0 is over in HOUR 1, and he holds to it
                dayIs(mixed(others, number, 6, STUBBORN, new int[] {3, 0, 5, 9}, new int[] {1, 0, 3, 9}, new int[] {1, 0, 5, 9}),
                    three, 3, 1, 2, 3);
                dayIs(mixed(others, number, 4, KIND, none, new int[] {1, 0}, none), three, 1, 1);
                dayIs(mixed(others, number, 4, IDLE, new int[] {1, 9}, new int[] {1, 9}, none), three, 2, 0, 1);
            }
        }
    }

    // ---- promise 9: refused

    /** Sets that are no THREE among so many PEOPLE. */
    private static int[] noThrees(int people) {
        int beyond = 1 << people;
        return new int[] {0, 1, 3, 15, 511, beyond | 3, beyond | 5, beyond | 6, 7 << people, 7 | beyond, 7 | beyond << 1,
            -1, -2, -7, 7 - 16, Integer.MIN_VALUE, Integer.MIN_VALUE | 3, Integer.MIN_VALUE | 7, Integer.MAX_VALUE, 7 << 28, 7 << 29};
    }

    @Says(promise = 9, text = "A THREE: three of PEOPLE (a set, bits); BAD: -10")
    static void dayOfNoThree() {
        for (int set : noThrees(3)) {
            SOME.bad("day(" + set + ", 0)", x -> x.day(set, 0), -10);
            SOME.bad("day(" + set + ", NONE)", x -> x.day(set, NONE), -10);
        }
        for (int set : noThrees(9)) {
            FULL.bad("day(" + set + ", 9)", x -> x.day(set, 9), -10);
        }
        NEW.bad("day(7, 0)", x -> x.day(7, 0), -10);
        NEW.behind("two people", x -> Towns.people(x, 2)).bad("day(7, NONE)", x -> x.day(7, NONE), -10);
    }

    @Says(promise = 9, text = "where they are as an HOUR (0 .. 9) ends; (hour = NONE); BAD: -10")
    static void dayOfNoHour() {
        SOME.badBeyond(-1, 9, "day(7, hour)", (x, hour) -> x.day(7, hour), -10);
        FULL.badBeyond(-1, 9, "day(448, hour)", (x, hour) -> x.day(448, hour), -10);
        NEW.bad("day(0, 10)", x -> x.day(0, 10), -10);
        for (int hour = -1; hour <= 9; hour++) {
            int asked = hour;
            int due = SOME.one().day(7, hour);
            SOME.asked("day(7, " + hour + ")", x -> x.day(7, asked), due);
            C.that("day(7, " + hour + ") is no refusal", due >= 0);
        }
    }

    @Says(promise = 9, text = "three of PEOPLE: the least ones, the last ones, each three of nine")
    static void eachThreeOfNine() {
        TiedThrees x = Towns.plain(9);
        for (int p = 0; p < 9; p++) {
            x.errand(p, 0, 0);
        }
        int many = 0;
        for (int set = 0; set < 512; set++) {
            if (Integer.bitCount(set) == 3) {
                C.due("day(" + set + ", NONE)", x.day(set, NONE), 3);
                many++;
            }
        }
        C.due("threes of nine", many, 84);
    }

    // ---- promise 10

    private static void bestIs(TiedThrees x, int three, int most) {
        C.due("best(" + three + ")", x.best(three), most);
    }

    @Says(promise = 10, text = "the most that could be DONE: none, if there is nothing to do")
    static void bestOfNothing() {
        for (int places = 1; places <= 6; places++) {
            bestIs(alike(places, PERSON, 9), 7, 0);
        }
    }

    @Says(promise = 10, text = "(each HOUR none, one ..): from PLACE 0 in HOUR 0")
    static void bestOfOneStep() {
        for (int places = 3; places <= 6; places++) {
            for (int place = 0; place < places; place++) {
                boolean near = place <= 1 || place == places - 1;
                bestIs(alike(places, PERSON, 4, place, 0), 7, near ? 3 : 0);
            }
        }
        bestIs(alike(1, PERSON, 4, 0, 0), 7, 3);
        bestIs(alike(2, PERSON, 4, 1, 0), 7, 3);
        bestIs(alike(2, PERSON, 4, 1, 0, 0, 0), 7, 3);
    }

    @Says(promise = 10, text = "or two, if their PACE is so, either way")
    static void bestOfTwoSteps() {
        for (int place = 0; place < 6; place++) {
            bestIs(alike(6, PERSON, 5, place, 0), 7, place == 3 ? 0 : 3);
            bestIs(alike(6, PERSON, 5, place, 1), 7, 3);
        }
        for (int slow = 0; slow < 3; slow++) {
            TiedThrees x = ring(6);
            for (int i = 0; i < 3; i++) {
                add(x, PERSON, i == slow ? 4 : 5, 2, 0, 4, 0);
            }
            bestIs(x, 7, 0);
        }
        TiedThrees x = alike(6, PERSON, 5, 2, 0);
        add(x, PERSON, 4, 2, 0);
        bestIs(x, 7, 3);
        bestIs(x, 14, 0);
    }

    @Says(promise = 10, text = "none: they may wait, and go back")
    static void bestByStayingAndTurning() {
        bestIs(alike(6, PERSON, 4, 0, 0, 1, 1), 7, 6);
        bestIs(alike(6, PERSON, 4, 1, 0, 5, 2), 7, 6);
        bestIs(alike(6, PERSON, 4, 1, 0, 5, 1), 7, 3);
        // 1, 0, 5, 4, 3, 2: to 5 in HOUR 2 at the soonest, to 4 in HOUR 3, to 2 in HOUR 5
        bestIs(alike(6, PERSON, 4, 1, 0, 5, 2, 4, 3, 2, 5), 7, 12);
        bestIs(alike(6, PERSON, 4, 1, 0, 5, 2, 4, 2, 2, 5), 7, 9);
        bestIs(alike(6, PERSON, 4, 1, 0, 5, 2, 4, 3, 2, 4), 7, 9);
    }

    @Says(promise = 10, text = "DONE, whose HOUR is this one or later: up to its HOUR, not behind it")
    static void bestByTheHour() {
        for (int steps = 1; steps <= 3; steps++) {
            bestIs(alike(6, PERSON, 1, steps, steps - 1), 7, 3);
            bestIs(alike(6, PERSON, 1, 6 - steps, steps - 1), 7, 3);
            if (steps > 1) {
                bestIs(alike(6, PERSON, 1, steps, steps - 2), 7, 0);
                bestIs(alike(6, PERSON, 1, 6 - steps, steps - 2), 7, 0);
            }
        }
        bestIs(alike(6, PERSON, 1, 3, 9), 7, 3);
    }

    @Says(promise = 10, text = "at the PLACE where they are: two steps pass by the one between")
    static void bestPassesBy() {
        bestIs(alike(6, PERSON, 9, 1, 0, 2, 0), 7, 3);
        bestIs(alike(6, PERSON, 9, 1, 0, 2, 1), 7, 6);
        bestIs(alike(6, PERSON, 9, 1, 0, 3, 1), 7, 6);
        bestIs(alike(6, PERSON, 9, 1, 0, 3, 0), 7, 3);
    }

    @Says(promise = 10, text = "BEST of a THREE: as many ERRANDS as there is room for, of the THREE alone")
    static void bestOfAllErrands() {
        TiedThrees x = ring(6);
        for (int i = 0; i < 9; i++) {
            add(x, i % 5, 1, 5, 9, 4, 9, 3, 9, 2, 9);
        }
        bestIs(x, 7, 12);
        bestIs(x, 448, 12);
        x.drop(8);
        bestIs(x, 448, 11);
        bestIs(x, 7, 12);
        TiedThrees mixed = ring(6);
        add(mixed, PERSON, 9, 0, 0, 1, 0, 2, 0, 3, 0);
        add(mixed, PERSON, 9, 4, 0, 5, 0, 0, 0, 1, 0);
        add(mixed, PERSON, 9, 2, 1, 2, 0, 2, 0, 3, 1);
        // to 2 in HOUR 0 (three there, one of HOUR 1), then to 3
        bestIs(mixed, 7, 5);
    }

    @Says(promise = 10, text = "by whatever steps: not by votes")
    static void bestIsNotVoted() {
        TiedThrees x = Towns.plain(3);
        x.errand(2, 1, 9);
        C.due("day(7, NONE)", x.day(7, NONE), 0);
        bestIs(x, 7, 1);
    }

    @Says(promise = 10, text = "BAD: what is no THREE")
    static void bestBad() {
        for (int set : noThrees(3)) {
            SOME.bad("best(" + set + ")", x -> x.best(set));
        }
        for (int set : noThrees(9)) {
            FULL.bad("best(" + set + ")", x -> x.best(set));
        }
        NEW.bad("best(7)", x -> x.best(7));
        NEW.behind("two people", x -> Towns.people(x, 2)).bad("best(7)", x -> x.best(7));
        SOME.asked("best(7)", x -> x.best(7), 3);
    }
}
