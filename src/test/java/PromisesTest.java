/** Each promise by itself: ordinary numbers, the edges that the document names, wrong numbers. */
public final class PromisesTest {
    private static final Check C = new Check();
    private static final int MIN = Integer.MIN_VALUE;
    private static final int MAX = Integer.MAX_VALUE;

    public static void main(String[] args) {
        p01NewObject();
        p02Places();
        p03Person();
        p04Errand();
        p05Drop();
        p06Type();
        p07Clear();
        p08ReadSound();
        p08ReadFaults();
        p08ReadKeepsAndForgets();
        p09DayVotes();
        p09DaySteps();
        p09DayRefused();
        p10Best();
        p11Most();
        p12Lot();
        p13Rows();
        p14Gain();
        p15Leaves();
        p16Fair();
        p17Week();
        p18Loose();
        p19Knows();
        p20When();
        p21Rope();
        p22Sight();
        p23Blind();
        p24Which();
        p25Part();
        p26And27Images();
        p28Status();
        p29Count();
        p30Digest();
        C.end("PromisesTest");
    }

    /** An object with so many PEOPLE of KIND 0 and PACE 1. */
    private static TiedThrees plain(int people) {
        TiedThrees x = new TiedThrees();
        for (int i = 0; i < people; i++) {
            x.person(0, 1);
        }
        return x;
    }

    private static void dayIs(TiedThrees x, int three, int done, int... where) {
        C.due("day(" + three + ", NONE)", x.day(three, TiedThrees.NONE), done);
        for (int hour = 0; hour < 10; hour++) {
            int due = where[Math.min(hour, where.length - 1)];
            C.due("day(" + three + ", " + hour + ")", x.day(three, hour), due);
        }
    }

    private static void countsAre(TiedThrees x, int... counts) {
        for (int what = 0; what < counts.length; what++) {
            C.due("count(" + what + ")", x.count(what), counts[what]);
        }
    }

    private static void p01NewObject() {
        C.about("promise 1, a new object");
        TiedThrees x = new TiedThrees();
        countsAre(x, 4, 0, 0, 0, 0, 0);
        C.due("part(0)", x.part(0), 0);
        C.due("part(1)", x.part(1), 1);
        for (int set = 1; set <= 7; set++) {
            C.due("gain(" + set + ", 0)", x.gain(set, 0), 0);
        }
        for (int what = 0; what < 3; what++) {
            C.due("status(" + what + ")", x.status(what), 0);
        }
        C.no(x, "from(0)", () -> x.from(0));
        C.no(x, "from(1)", () -> x.from(1));
        C.due("NONE", TiedThrees.NONE, -1);
        C.due("BAD", TiedThrees.BAD, -2);
        C.due("NO", TiedThrees.NO, -3);
        C.due("FULL", TiedThrees.FULL, -4);
    }

    private static void p02Places() {
        C.about("promise 2, places");
        TiedThrees x = plain(3);
        x.errand(0, 3, 9);
        x.week(7, 0, 0);
        x.sight(0, 0, 0);
        x.gain(3, 33);
        Check.type(x, "abc");
        x.fair(0);
        long above = x.part(0);
        C.due("places(6)", x.places(6), 4);
        countsAre(x, 6, 0, 0, 0, 0, 3);
        C.due("gain(3, 0)", x.gain(3, 0), 33);
        C.due("part(0)", x.part(0), above);
        C.due("places(1)", x.places(1), 6);
        C.due("places(1)", x.places(1), 1);
        x.person(0, 1);
        for (int n : new int[] {0, 7, -1, MIN, MAX}) {
            C.bad(x, "places(" + n + ")", () -> x.places(n));
        }
        C.due("count(0)", x.count(0), 1);
        C.due("errand(0, 0, 0) of one made anew", x.errand(0, 0, 0), 0);
    }

    private static void p03Person() {
        C.about("promise 3, person");
        TiedThrees x = new TiedThrees();
        int[][] wrong = {{-1, 1}, {5, 1}, {0, 0}, {0, 10}, {4, -3}, {MIN, MAX}, {MAX, MIN}};
        for (int i = 0; i < 9; i++) {
            C.due("person " + i, x.person(i % 5, i + 1), i);
        }
        C.full(x, "a 10th person", () -> x.person(0, 1));
        for (int[] w : wrong) {
            C.bad(x, "person(" + w[0] + ", " + w[1] + ")", () -> x.person(w[0], w[1]));
        }
        C.due("count(1)", x.count(1), 9);
    }

    private static void p04Errand() {
        C.about("promise 4, errand");
        TiedThrees x = plain(2);
        int[][] wrong = {{-1, 0, 0}, {2, 0, 0}, {0, -1, 0}, {0, 4, 0}, {0, 0, -1}, {0, 0, 10}, {MAX, MIN, MAX}, {0, MAX, 0}};
        for (int i = 0; i < 4; i++) {
            C.due("errand(1, 3, 9)", x.errand(1, 3, 9), i);
        }
        C.full(x, "a 5th errand", () -> x.errand(1, 0, 0));
        C.due("errand(0, 0, 0)", x.errand(0, 0, 0), 0);
        for (int[] w : wrong) {
            C.bad(x, "errand(" + w[0] + ", " + w[1] + ", " + w[2] + ")", () -> x.errand(w[0], w[1], w[2]));
        }
        C.bad(x, "BAD ahead of FULL", () -> x.errand(1, 4, 0));
        C.due("count(2)", x.count(2), 5);
        x.places(2);
        x.person(0, 1);
        C.bad(x, "errand(0, 2, 0) of 2 PLACES", () -> x.errand(0, 2, 0));
    }

    private static void p05Drop() {
        C.about("promise 5, drop");
        TiedThrees x = plain(3);
        x.errand(1, 0, 9);
        x.errand(1, 0, 8);
        dayIs(x, 7, 2, 0);
        C.due("drop(1)", x.drop(1), 1);
        dayIs(x, 7, 1, 0);
        C.due("drop(1)", x.drop(1), 0);
        C.no(x, "drop(1) of none", () -> x.drop(1));
        C.no(x, "drop(0) of none", () -> x.drop(0));
        C.bad(x, "drop(3)", () -> x.drop(3));
        C.bad(x, "drop(-1)", () -> x.drop(-1));
        C.bad(x, "drop(MAX)", () -> x.drop(MAX));
        C.due("errand behind drops", x.errand(1, 0, 0), 0);
    }

    private static void p06Type() {
        C.about("promise 6, type");
        TiedThrees x = new TiedThrees();
        // 'p' is 112, 'l' 108, 'a' 97, 'c' 99, 'e' 101, 's' 115, '5' 53, ';' 59
        C.due("type of 8", x.type(0x706c616365732035L, 8), 8);
        C.due("type of the lowest", x.type(0x70706c613bL, 1), 9);
        C.due("read()", x.read(), 1);
        C.due("count(0)", x.count(0), 5);
        for (int n : new int[] {0, 9, -1, MIN, MAX}) {
            C.bad(x, "type(0, " + n + ")", () -> x.type(0, n));
        }
        x.clear();
        for (int i = 1; i <= 31; i++) {
            C.due("type(-1, 8)", x.type(-1, 8), 8 * i);
        }
        C.full(x, "3 bytes behind 248", () -> x.type(0, 3));
        C.due("2 bytes behind 248", x.type(0, 2), 250);
        C.full(x, "a byte behind 250", () -> x.type(0, 1));
        C.bad(x, "BAD ahead of FULL", () -> x.type(0, 9));
        C.due("count(5)", x.count(5), 250);
    }

    private static void p07Clear() {
        C.about("promise 7, clear");
        TiedThrees x = new TiedThrees();
        C.due("clear() of an empty one", x.clear(), 0);
        Check.type(x, "person 1 2;");
        x.read();
        C.due("clear()", x.clear(), 11);
        countsAre(x, 4, 1, 0, 0, 0, 0);
        Check.type(x, ";");
        C.due("read() of what was typed since", x.read(), -10);
    }

    private static void reads(String text, int answer, int... counts) {
        TiedThrees x = new TiedThrees();
        C.due("read() of '" + text + "'", Check.read(x, text), answer);
        countsAre(x, counts);
    }

    private static void p08ReadSound() {
        C.about("promise 8, sound texts");
        reads("", 0, 4, 0, 0, 0, 0, 0);
        reads("   ", 0, 4, 0, 0, 0, 0, 3);
        reads("places 6;", 1, 6, 0, 0);
        reads("places1;places6;places2;", 3, 2, 0, 0);
        reads("  person  4   9  ;  ", 1, 4, 1, 0);
        reads("person0 1;places 2;person 1 9;errand1 1 9;person 2 2;errand 2 0 0;", 6, 2, 3, 2);
        reads("person 0 1;person 0 1;person 0 1;person 0 1;person 0 1;person 0 1;person 0 1;person 0 1;person 0 1;", 9, 4, 9, 0);
        reads("person 0 1;errand 0 3 9;errand 0 3 9;errand 0 3 9;errand 0 3 9;", 5, 4, 1, 4);
        reads("places 6;person 0 1;errand 0 5 0;", 3, 6, 1, 1);
    }

    /** A TEXT with a FAULT: nothing changes, and it is no refusal. */
    private static void faults(String text, int fault) {
        TiedThrees x = plain(1);
        x.errand(0, 1, 1);
        x.week(0, 0, 0);
        x.sight(0, 0, 0);
        x.clear();
        Check.type(x, text);
        C.refused(x, "read() of '" + text + "'", x::read, -10 - fault, TiedThrees.NONE);
    }

    private static void p08ReadFaults() {
        C.about("promise 8, faults");
        faults(";", 0);
        faults("3", 0);
        faults("place 3;", 0);
        faults("placess 3;", 0);
        faults("  town 3;", 2);
        faults("Places 3;", 0);
        faults("places 0;", 7);
        faults("places 7;", 7);
        faults("places 33;", 7);
        faults("places 03;", 7);
        faults("places 3 3;", 9);
        faults("places ;", 7);
        faults("places places;", 7);
        faults("places 3", 8);
        faults("places 3  ", 10);
        faults("places", 6);
        faults("places3;person", 14);
        faults("places 3,", 8);
        faults("places\t3;", 6);
        faults("places 3;\u0000", 9);
        faults("\u00ff", 0);
        faults("person 5 1;", 7);
        faults("person 0 0;", 9);
        faults("person 0 10;", 9);
        faults("person 01;", 7);
        faults("person 0;", 8);
        faults("person idle 3;", 7);
        faults("person 0 1 1;", 11);
        faults("person 0 1 person 0 1;", 11);
        faults("errand 0 0 0;", 7);
        faults("person 0 1;errand 1 0 0;", 18);
        faults("person 0 1;errand 0 4 0;", 20);
        faults("places 2;person 0 1;errand 0 2 0;", 29);
        faults("person 0 1;errand 0 0 ;", 22);
        faults("person 0 1;errand 0 0", 21);
        faults("person 0 1;errand 0 0 10;", 22);
        faults("person 0 1;errand 0 0 0;places 3;", 24);
        faults("person 0 1;errand 0 0 0;placess", 24);
        faults("person 0 1;errand 0 0 0;errand 0 0 0;errand 0 0 0;errand 0 0 0;errand 0 0 0;", 70);
        faults("person 0 1;errand 0 0 0;errand 0 0 0;errand 0 0 0;errand 0 0 0;errand", 69);
        String nine = "person 0 1;".repeat(9);
        faults(nine + "person 0 1;", 99);
        faults(nine + "person", 99);
        faults(nine + "errand 9 0 0;", 106);
    }

    private static void p08ReadKeepsAndForgets() {
        C.about("promise 8, what stays");
        TiedThrees x = plain(3);
        x.errand(2, 0, 0);
        x.week(7, 0, 0);
        x.sight(0, 0, 0);
        x.gain(5, 55);
        x.fair(0);
        x.places(6);
        x.person(0, 1);
        x.week(0, 0, 0);
        x.sight(0, 5, 0);
        C.due("read()", Check.read(x, "person 0 1;person 0 1;person 0 1;errand 0 3 9;"), 4);
        countsAre(x, 4, 3, 1, 0, 0, 46);
        C.due("gain(5, 0)", x.gain(5, 0), 55);
        dayIs(x, 7, 0, 0);
        C.due("read() again", x.read(), 4);
        x.image(0);
        C.due("read() of blanks", Check.read(x, " "), 0);
        countsAre(x, 4, 0, 0, 0, 0, 1);
        x.from(0);
        countsAre(x, 4, 3, 1, 0, 0, 1);
    }

    private static void p09DayVotes() {
        C.about("promise 9, votes");
        TiedThrees x = plain(3);
        dayIs(x, 7, 0, 0);
        // two who do not want to move outvote one
        x.errand(0, 2, 9);
        dayIs(x, 7, 0, 0);
        // as PERSONS the first OPEN one counts: 2, 1, 3 differ, so the least number's is theirs
        x.errand(1, 1, 9);
        x.errand(2, 3, 9);
        dayIs(x, 7, 2, 1, 2, 2);
        // 0 is HASTY: his second one is to be done sooner; equal HOURS: the first
        x = new TiedThrees();
        x.person(1, 1);
        x.person(0, 1);
        x.person(0, 1);
        x.errand(0, 2, 5);
        x.errand(0, 1, 3);
        x.errand(0, 3, 3);
        x.errand(1, 2, 9);
        x.errand(2, 3, 9);
        dayIs(x, 7, 5, 1, 2, 3);
        // 0 is STUBBORN: he goes for his first one though its HOUR is over, until it is DONE
        x = new TiedThrees();
        x.person(2, 1);
        x.person(2, 1);
        x.person(0, 1);
        x.errand(0, 2, 0);
        x.errand(0, 1, 9);
        x.errand(1, 2, 9);
        x.errand(1, 3, 9);
        dayIs(x, 7, 2, 1, 2, 2, 2);
        // KIND ones follow the lesser of the others when they have nothing to do
        x = new TiedThrees();
        x.person(0, 1);
        x.person(3, 1);
        x.person(3, 1);
        x.errand(0, 3, 9);
        x.errand(1, 1, 0);
        dayIs(x, 7, 1, 3, 3);
        x = new TiedThrees();
        x.person(3, 1);
        x.person(0, 1);
        x.person(0, 1);
        x.errand(1, 2, 9);
        x.errand(2, 1, 9);
        dayIs(x, 7, 2, 1, 2);
        x.errand(0, 3, 2);
        dayIs(x, 7, 2, 3, 2);
        // IDLE ones stay in even HOURS; in odd ones they are KIND
        x = new TiedThrees();
        x.person(0, 1);
        x.person(4, 1);
        x.person(4, 1);
        x.errand(0, 2, 9);
        dayIs(x, 7, 1, 0, 1, 1, 2, 2);
        // a STUBBORN one as lesser other is asked as a PERSON
        x = new TiedThrees();
        x.person(2, 1);
        x.person(3, 1);
        x.person(3, 1);
        x.errand(0, 2, 0);
        x.errand(0, 3, 9);
        dayIs(x, 7, 1, 1, 2, 3);
    }

    private static void p09DaySteps() {
        C.about("promise 9, steps");
        TiedThrees x = new TiedThrees();
        x.places(6);
        for (int i = 0; i < 3; i++) {
            x.person(i == 0 ? 0 : 3, 5);
        }
        // three away both ways: rising; two a turn, but not beyond
        x.errand(0, 3, 9);
        x.errand(0, 5, 9);
        x.errand(0, 4, 9);
        dayIs(x, 7, 3, 2, 3, 5, 4);
        // what is passed by is not DONE; one PACE below 5 slows all three
        x.errand(1, 1, 0);
        dayIs(x, 7, 3, 2, 3, 5, 4);
        x.person(3, 4);
        dayIs(x, 13, 3, 1, 2, 3, 4, 5);
        // an HOUR that is this one is still soon enough, one that is over not
        x = plain(3);
        x.errand(0, 1, 0);
        x.errand(1, 1, 0);
        x.errand(2, 2, 0);
        dayIs(x, 7, 2, 1);
        // in a ring of two, and of one
        x.places(2);
        x.person(2, 9);
        x.person(2, 9);
        x.person(2, 9);
        x.errand(0, 1, 9);
        x.errand(1, 1, 9);
        dayIs(x, 7, 2, 1);
        x.places(1);
        x.person(2, 9);
        x.person(2, 9);
        x.person(2, 9);
        x.errand(2, 0, 0);
        dayIs(x, 7, 1, 0);
        // the least number decides, not who came first in the set's making
        x = plain(9);
        x.errand(8, 1, 9);
        x.errand(7, 2, 9);
        x.errand(6, 3, 9);
        dayIs(x, 448, 1, 3);
        x = plain(3);
        x.errand(1, 1, 9);
        x.errand(2, 1, 9);
        x.errand(0, 3, 9);
        dayIs(x, 7, 2, 1, 1);
    }

    private static void p09DayRefused() {
        C.about("promise 9, refused");
        TiedThrees x = plain(4);
        int[][] wrong = {{7, -2}, {7, 10}, {7, MAX}, {7, MIN}, {0, 0}, {3, 0}, {15, 0}, {19, 0}, {-7, 0}, {MIN, 0}, {MAX, 0}, {7 + 512, 0}};
        for (int[] w : wrong) {
            C.bad(x, "day(" + w[0] + ", " + w[1] + ")", () -> x.day(w[0], w[1]), -10);
        }
        C.due("day(14, 9)", x.day(14, 9), 0);
    }

    private static void p10Best() {
        C.about("promise 10, best");
        TiedThrees x = new TiedThrees();
        x.places(6);
        for (int i = 0; i < 3; i++) {
            x.person(0, 5);
        }
        C.due("best(7) of nothing", x.best(7), 0);
        x.errand(2, 3, 0);
        C.due("best(7): three steps away", x.best(7), 0);
        x.drop(2);
        x.errand(0, 0, 0);
        x.errand(0, 2, 0);
        x.errand(0, 4, 0);
        C.due("best(7): one of three", x.best(7), 1);
        x.errand(1, 4, 0);
        C.due("best(7): two at one place", x.best(7), 2);
        x.errand(1, 2, 1);
        C.due("best(7): then 2 from 4 by two steps", x.best(7), 3);
        x.errand(1, 3, 9);
        x.errand(1, 5, 1);
        C.due("best(7): 4, 5, 3", x.best(7), 4);
        x.person(0, 4);
        C.due("best(11), slow", x.best(11), 3);
        x.places(6);
        for (int i = 0; i < 3; i++) {
            x.person(4, 4);
        }
        for (int place = 1; place <= 5; place++) {
            x.errand(place % 3, place, 9);
        }
        C.due("best(7): round the ring", x.best(7), 5);
        x.errand(0, 0, 9);
        C.due("best(7): 6 of 6", x.best(7), 6);
        for (int set : new int[] {0, 3, 8, 11, 15, -1, MIN, MAX}) {
            C.bad(x, "best(" + set + ")", () -> x.best(set));
        }
    }

    private static void p11Most() {
        C.about("promise 11, most");
        TiedThrees x = new TiedThrees();
        C.refused(x, "most(NONE) of nobody", () -> x.most(-1), -20, 1);
        C.bad(x, "most(0) of nobody", () -> x.most(0), -10);
        for (int i = 0; i < 6; i++) {
            x.person(0, 1);
        }
        C.due("most(NONE)", x.most(-1), 0);
        C.due("most(0): the first of like ones", x.most(0), 7);
        C.due("most(5)", x.most(5), 56);
        // 1 and 4 get theirs done only together; the least THREE of 0 that leaves both is 13
        x.errand(1, 1, 9);
        x.errand(4, 1, 9);
        C.due("most(NONE)", x.most(-1), 2);
        C.due("most(1): 1, 4, 5", x.most(1), 50);
        C.due("most(4)", x.most(4), 50);
        C.due("most(2): 0, 2, 3", x.most(2), 13);
        C.bad(x, "most(6)", () -> x.most(6), -10);
        C.bad(x, "most(-2)", () -> x.most(-2), -10);
        C.bad(x, "most(MIN)", () -> x.most(MIN), -10);
        x.person(0, 1);
        C.refused(x, "most(0) of 7", () -> x.most(0), -20, 1);
        C.bad(x, "BAD ahead of NO", () -> x.most(7), -10);
        x.person(0, 1);
        x.person(0, 1);
        C.due("most(0) of 9", x.most(0), 13);
        C.due("most(5) of 9", x.most(5), 50);
        C.due("most(6) of 9", x.most(6), 448);
        TiedThrees y = plain(3);
        y.errand(2, 0, 0);
        C.due("most(NONE) of 3", y.most(-1), 1);
        C.due("most(2) of 3", y.most(2), 7);
    }

    private static void p12Lot() {
        C.about("promise 12, lot");
        // SEED 1: X is 1103527590, 2524885223 less 2147483648 = 377401575, ..: X by 65536 is 16838, 5758
        TiedThrees x = plain(6);
        int first = 16838 % 5;
        int second = 5758 % 4;
        int[] left = {1, 2, 3, 4, 5};
        int three = 1 | 1 << left[first];
        int at = second < first ? second : second + 1;
        three |= 1 << left[at];
        C.due("lot(1, 0)", x.lot(1, 0), three);
        for (int p = 0; p < 6; p++) {
            C.due("lot(1, " + p + ")", x.lot(1, p), (three >> p & 1) == 1 ? three : 63 - three);
        }
        TiedThrees y = plain(3);
        C.due("lot of 3", y.lot(999999, 2), 7);
        C.due("lot of 3", y.lot(0, 0), 7);
        TiedThrees z = plain(9);
        for (int seed : new int[] {0, 1, 2, 4711, 999999}) {
            int met = z.lot(seed, 0);
            C.that("the least one is in his own", (met & 1) == 1 && Integer.bitCount(met) == 3);
            for (int p = 0; p < 9; p++) {
                int his = z.lot(seed, p);
                C.that("each is in his own", (his >> p & 1) == 1 && Integer.bitCount(his) == 3);
                for (int q = 0; q < 9; q++) {
                    C.that("threes are apart", (his >> q & 1) == 0 || z.lot(seed, q) == his);
                }
            }
        }
        C.bad(z, "lot(-1, 0)", () -> z.lot(-1, 0));
        C.bad(z, "lot(1000000, 0)", () -> z.lot(1000000, 0));
        C.bad(z, "lot(0, 9)", () -> z.lot(0, 9));
        C.bad(z, "lot(0, -1)", () -> z.lot(0, -1));
        TiedThrees four = plain(4);
        C.no(four, "lot of 4", () -> four.lot(0, 0));
        C.bad(four, "BAD ahead of NO", () -> four.lot(0, 4));

    }

    private static void p13Rows() {
        C.about("promise 13, rows");
        long[][] due = {{1, 0, 0, 0}, {10, 0, 0, 0}, {280, 10080, 20160, 20160}};
        for (int threes = 1; threes <= 3; threes++) {
            TiedThrees x = plain(3 * threes);
            for (int w = 1; w <= 4; w++) {
                C.due("rows(" + w + ") of " + 3 * threes, x.rows(w), due[threes - 1][w - 1]);
            }
            C.bad(x, "rows(0)", () -> x.rows(0));
            C.bad(x, "rows(5)", () -> x.rows(5));
            C.bad(x, "rows(MIN)", () -> x.rows(MIN));
        }
        for (int people : new int[] {0, 1, 2, 4, 5, 7, 8}) {
            TiedThrees x = plain(people);
            C.no(x, "rows(1) of " + people, () -> x.rows(1));
            C.bad(x, "BAD ahead of NO", () -> x.rows(-1));
        }
    }

    private static void p14Gain() {
        C.about("promise 14, gain");
        TiedThrees x = new TiedThrees();
        for (int set = 1; set <= 7; set++) {
            int s = set;
            C.due("gain(" + s + ")", x.gain(s, 10 + s), 0);
        }
        for (int set = 1; set <= 7; set++) {
            C.due("gain(" + set + ", 99)", x.gain(set, 99), 10 + set);
            C.due("gain(" + set + ", 0)", x.gain(set, 0), 99);
        }
        int[][] wrong = {{0, 0}, {8, 0}, {-1, 0}, {1, -1}, {1, 100}, {MAX, 0}, {1, MAX}, {MIN, MIN}};
        for (int[] w : wrong) {
            C.bad(x, "gain(" + w[0] + ", " + w[1] + ")", () -> x.gain(w[0], w[1]));
        }
    }

    private static void p15Leaves() {
        C.about("promise 15, leaves");
        TiedThrees x = new TiedThrees();
        C.due("leaves(0, 0, 0)", x.leaves(0, 0, 0), -1);
        C.due("leaves(1, 0, 0)", x.leaves(1, 0, 0), 7);
        x.gain(7, 99);
        C.due("leaves(99, 0, 0)", x.leaves(99, 0, 0), -1);
        C.due("leaves(99, 99, 99)", x.leaves(99, 99, 99), 7);
        x.gain(1, 10);
        x.gain(2, 20);
        x.gain(4, 30);
        C.due("leaves(9, 0, 90): the first", x.leaves(9, 0, 90), 1);
        C.due("leaves(10, 19, 70)", x.leaves(10, 19, 70), 2);
        C.due("leaves(50, 20, 29)", x.leaves(50, 20, 29), 4);
        C.due("leaves(10, 20, 69)", x.leaves(10, 20, 69), -1);
        x.gain(3, 31);
        C.due("leaves(10, 20, 69): 3", x.leaves(10, 20, 69), 3);
        x.gain(5, 60);
        C.due("leaves(29, 40, 30): 5", x.leaves(29, 40, 30), 5);
        x.gain(6, 70);
        C.due("leaves(30, 39, 30): 6", x.leaves(30, 39, 30), 6);
        C.due("leaves(29, 39, 31): just enough", x.leaves(29, 39, 31), -1);
        C.due("leaves(29, 40, 31): 7", x.leaves(29, 40, 31), 7);
        int[][] wrong = {{-1, 0, 0}, {0, -1, 0}, {0, 0, -1}, {100, 0, 0}, {0, 100, 0}, {0, 0, 100}, {MAX, MAX, 2}};
        for (int[] w : wrong) {
            C.bad(x, "leaves(" + w[0] + ", " + w[1] + ", " + w[2] + ")", () -> x.leaves(w[0], w[1], w[2]));
        }
    }

    private static void fairIs(TiedThrees x, int partner, long above, long below) {
        C.due("fair(" + partner + ")", x.fair(partner), 1);
        C.due("part(0)", x.part(0), above);
        C.due("part(1)", x.part(1), below);
    }

    private static void p16Fair() {
        C.about("promise 16, fair");
        TiedThrees x = new TiedThrees();
        fairIs(x, 0, 0, 1);
        x.gain(7, 1);
        fairIs(x, 0, 1, 3);
        fairIs(x, 1, 1, 3);
        fairIs(x, 2, 1, 3);
        x.gain(1, 1);
        fairIs(x, 0, 2, 3);
        fairIs(x, 1, 1, 6);
        fairIs(x, 2, 1, 6);
        x.gain(6, 99);
        fairIs(x, 0, -97, 3);
        fairIs(x, 1, 50, 3);
        C.due("the sum of all: -97 and 50 and 50 by 3", x.gain(7, 99), 1);
        x.gain(1, 0);
        x.gain(6, 0);
        fairIs(x, 0, 33, 1);
        x.gain(3, 1);
        fairIs(x, 0, 199, 6);
        fairIs(x, 2, 98, 3);
        x.gain(5, 3);
        fairIs(x, 1, 193, 6);
        C.bad(x, "fair(3)", () -> x.fair(3));
        C.bad(x, "fair(-1)", () -> x.fair(-1));
        C.bad(x, "fair(MIN)", () -> x.fair(MIN));
    }

    private static void p17Week() {
        C.about("promise 17, week");
        TiedThrees x = plain(8);
        int[][] wrong = {{7, 7, 0}, {7, 0, 7}, {0, 7, 7}, {7, 25, 0}, {7, 56, 0b11000001}, {1, 0, 0}, {0, 3, 0}, {0, 0, 15},
            {7, 56, 448}, {-7, 0, 0}, {MIN, 0, 0}, {MAX, 0, 0}, {0, 0, 7 << 10}};
        for (int[] w : wrong) {
            C.bad(x, "week(" + w[0] + ", " + w[1] + ", " + w[2] + ")", () -> x.week(w[0], w[1], w[2]));
        }
        C.due("week(0, 0, 0)", x.week(0, 0, 0), 0);
        C.due("week(0, 56, 7)", x.week(0, 56, 7), 1);
        C.due("week(224, 0, 0)", x.week(224, 0, 0), 2);
        C.due("week(7, 56, 0)", x.week(7, 56, 0), 3);
        C.due("week(7, 56, 0)", x.week(7, 56, 0), 4);
        x.person(0, 1);
        C.due("week(7, 56, 448)", x.week(7, 56, 448), 5);
        C.full(x, "a 7th week", () -> x.week(0, 0, 0));
        C.bad(x, "BAD ahead of FULL", () -> x.week(1, 0, 0));
    }

    private static void p18Loose() {
        C.about("promise 18, loose");
        TiedThrees x = plain(3);
        C.due("loose() of none", x.loose(), 0);
        x.week(7, 0, 0);
        x.week(0, 0, 0);
        x.sight(0, 0, 0);
        C.due("loose()", x.loose(), 2);
        countsAre(x, 4, 3, 0, 0, 1);
        C.due("week behind it", x.week(0, 0, 7), 0);
    }

    private static void p19Knows() {
        C.about("promise 19, knows");
        TiedThrees x = plain(9);
        x.week(7, 56, 448);
        x.week(0b1001001, 0, 0);
        x.week(0b110000010, 0, 0);
        C.due("knows(1, 0)", x.knows(1, 0), 1);
        C.due("knows(1, 1)", x.knows(1, 1), 7);
        C.due("knows(1, 2)", x.knows(1, 2), 0b1001111);
        C.due("knows(1, 3)", x.knows(1, 3), 0b111001111);
        C.due("knows(0, 3)", x.knows(0, 3), 0);
        C.due("knows(511, 3)", x.knows(511, 3), 511);
        C.due("knows(0b100100000, 1)", x.knows(0b100100000, 1), 0b111111000);
        int[][] wrong = {{512, 0}, {-1, 0}, {1, 4}, {1, -1}, {MIN, 0}, {0, MAX}};
        for (int[] w : wrong) {
            C.bad(x, "knows(" + w[0] + ", " + w[1] + ")", () -> x.knows(w[0], w[1]));
        }
        TiedThrees none = new TiedThrees();
        C.due("knows(0, 0) of nobody", none.knows(0, 0), 0);
        C.bad(none, "knows(1, 0) of nobody", () -> none.knows(1, 0));
    }

    private static void p20When() {
        C.about("promise 20, when");
        TiedThrees x = plain(9);
        C.due("when(1, 0) without weeks", x.when(1, 0), 0);
        C.due("when(1, 1) without weeks", x.when(1, 1), -1);
        x.week(7, 56, 0);
        x.week(0b1001001, 0, 0);
        C.due("when(1, 0)", x.when(1, 0), 0);
        C.due("when(1, 2)", x.when(1, 2), 1);
        C.due("when(1, 6): behind the last", x.when(1, 6), 2);
        C.due("when(1, 4)", x.when(1, 4), -1);
        C.due("when(0, 4)", x.when(0, 4), -1);
        C.due("when(511, 8)", x.when(511, 8), 0);
        int[][] wrong = {{512, 0}, {-1, 0}, {1, 9}, {1, -1}, {MIN, 0}, {0, MAX}};
        for (int[] w : wrong) {
            C.bad(x, "when(" + w[0] + ", " + w[1] + ")", () -> x.when(w[0], w[1]));
        }
    }

    private static void ropeIs(int a, int b, int one, int two, int turn) {
        TiedThrees x = new TiedThrees();
        C.due("rope(" + a + ", " + b + ", 0)", x.rope(a, b, 0), one);
        C.due("rope(" + a + ", " + b + ", 1)", x.rope(a, b, 1), two);
        C.due("rope(" + a + ", " + b + ", 2)", x.rope(a, b, 2), turn);
    }

    private static void p21Rope() {
        C.about("promise 21, rope");
        ropeIs(1, 1, 1, 1, 0);
        ropeIs(2, 1, 1, 0, 0);
        ropeIs(2, 2, 1, 0, 0);
        ropeIs(3, 3, 2, 1, 1);
        // two at 2 would keep 1 either way and pull: so one lets go ahead of it
        ropeIs(2, 4, 1, 4, 0);
        ropeIs(4, 4, 2, 4, 0);
        ropeIs(5, 5, 4, 2, 1);
        ropeIs(60, 2, 59, 0, 0);
        ropeIs(1, 60, 1, 60, 0);
        ropeIs(60, 60, 59, 29, 1);
        TiedThrees x = new TiedThrees();
        int[][] wrong = {{0, 1, 0}, {61, 1, 0}, {1, 0, 0}, {1, 61, 0}, {1, 1, -1}, {1, 1, 3}, {MIN, MAX, 0}};
        for (int[] w : wrong) {
            C.bad(x, "rope(" + w[0] + ", " + w[1] + ", " + w[2] + ")", () -> x.rope(w[0], w[1], w[2]));
        }
    }

    private static void p22Sight() {
        C.about("promise 22, sight");
        TiedThrees x = plain(2);
        int[][] wrong = {{-1, 0, 0}, {2, 0, 0}, {0, -1, 0}, {0, 4, 0}, {0, 0, -1}, {0, 0, 10}, {MAX, MIN, MAX}};
        C.due("sight(0, 0, 0)", x.sight(0, 0, 0), 0);
        C.due("sight(1, 3, 9)", x.sight(1, 3, 9), 1);
        for (int[] w : wrong) {
            C.bad(x, "sight(" + w[0] + ", " + w[1] + ", " + w[2] + ")", () -> x.sight(w[0], w[1], w[2]));
        }
        for (int i = 2; i < 5; i++) {
            C.due("sight(1, 3, 9)", x.sight(1, 3, 9), i);
        }
        C.full(x, "a 6th sight", () -> x.sight(0, 0, 0));
        C.bad(x, "BAD ahead of FULL", () -> x.sight(0, 0, 10));
    }

    private static void p23Blind() {
        C.about("promise 23, blind");
        TiedThrees x = plain(3);
        C.due("blind() of none", x.blind(), 0);
        x.sight(0, 1, 1);
        x.sight(0, 2, 2);
        x.week(7, 0, 0);
        C.due("which(0, NONE)", x.which(0, -1), 0);
        C.due("blind()", x.blind(), 2);
        countsAre(x, 4, 3, 0, 1, 0);
        C.due("which(0, NONE)", x.which(0, -1), 1);
        C.due("sight behind it", x.sight(0, 0, 0), 0);
    }

    private static void p24Which() {
        C.about("promise 24, which");
        TiedThrees x = plain(5);
        C.due("which(4, NONE)", x.which(4, -1), 6);
        int[] rising = {0b10011, 0b10101, 0b10110, 0b11001, 0b11010, 0b11100};
        for (int i = 0; i < 6; i++) {
            C.due("which(4, " + i + ")", x.which(4, i), rising[i]);
        }
        C.refused(x, "which(4, 6)", () -> x.which(4, 6), -5, TiedThrees.NONE);
        C.refused(x, "which(4, MAX)", () -> x.which(4, MAX), -5, TiedThrees.NONE);
        // 2 and 3 have the same way: with them one goes to 1
        x.errand(2, 1, 9);
        x.errand(3, 1, 9);
        x.sight(4, 1, 0);
        C.due("which(4, NONE)", x.which(4, -1), 1);
        C.due("which(4, 0)", x.which(4, 0), 0b11100);
        C.due("which(4, 1)", x.which(4, 1), -5);
        C.due("which(0, NONE): no SIGHT of him", x.which(0, -1), 6);
        x.sight(4, 2, 1);
        C.due("which(4, NONE): by all", x.which(4, -1), 0);
        C.bad(x, "which(5, NONE)", () -> x.which(5, -1), -10);
        C.bad(x, "which(-1, 0)", () -> x.which(-1, 0), -10);
        C.bad(x, "which(0, -2)", () -> x.which(0, -2), -10);
        C.bad(x, "which(0, MIN)", () -> x.which(0, MIN), -10);
        TiedThrees two = plain(2);
        C.due("which of two", two.which(0, -1), 0);
        C.due("which of two", two.which(0, 0), -5);
    }

    private static void p25Part() {
        C.about("promise 25, part");
        TiedThrees x = new TiedThrees();
        x.gain(6, 1);
        fairIs(x, 0, -1, 3);
        C.bad(x, "part(2)", () -> x.part(2), -1000);
        C.bad(x, "part(-1)", () -> x.part(-1), -1000);
        C.bad(x, "part(MAX)", () -> x.part(MAX), -1000);
        x.places(3);
        C.due("part(0) stays", x.part(0), -1);
    }

    private static void p26And27Images() {
        C.about("promises 26 and 27, image and from");
        TiedThrees x = plain(3);
        x.errand(0, 1, 1);
        x.gain(7, 70);
        x.week(7, 0, 0);
        x.sight(1, 2, 3);
        Check.type(x, "ab");
        C.due("image(0)", x.image(0), 1);
        long digest = x.digest();
        C.no(x, "from(1)", () -> x.from(1));
        x.errand(0, 2, 2);
        x.drop(0);
        x.drop(0);
        x.errand(0, 3, 3);
        x.gain(7, 7);
        x.loose();
        x.week(0, 0, 7);
        x.blind();
        x.sight(2, 0, 0);
        C.due("image(1)", x.image(1), 1);
        long second = x.digest();
        x.places(2);
        C.due("from(0)", x.from(0), 1);
        C.due("digest()", x.digest(), digest);
        C.due("from(1)", x.from(1), 1);
        C.due("digest()", x.digest(), second);
        x.drop(0);
        x.gain(1, 1);
        x.week(7, 0, 0);
        C.due("from(0)", x.from(0), 1);
        C.due("digest()", x.digest(), digest);
        x.errand(0, 0, 0);
        C.due("from(0) twice", x.from(0), 1);
        C.due("digest()", x.digest(), digest);
        x.type(0x63, 1);
        x.fair(0);
        x.person(9, 9);
        x.from(0);
        countsAre(x, 4, 3, 1, 1, 1, 3);
        C.due("part(0) stays", x.part(0), 70);
        C.due("part(1) stays", x.part(1), 3);
        C.due("status(0) stays", x.status(0), 1);
        C.due("image(0) again", x.image(0), 1);
        x.places(5);
        x.image(0);
        x.places(6);
        x.from(0);
        countsAre(x, 5, 0, 0, 0, 0, 3);
        for (int i : new int[] {-1, 2, MIN, MAX}) {
            C.bad(x, "image(" + i + ")", () -> x.image(i));
            C.bad(x, "from(" + i + ")", () -> x.from(i));
        }
    }

    private static void p28Status() {
        C.about("promise 28, status");
        TiedThrees x = new TiedThrees();
        x.places(9);
        x.part(5);
        x.day(0, 0);
        x.which(0, 0);
        x.count(6);
        C.due("status(0)", x.status(0), 5);
        x.rows(1);
        x.most(-1);
        x.from(0);
        C.due("status(1)", x.status(1), 3);
        for (int i = 0; i < 7; i++) {
            x.week(0, 0, 0);
        }
        C.due("status(2)", x.status(2), 1);
        C.bad(x, "status(3)", () -> x.status(3), -1);
        C.bad(x, "status(-1)", () -> x.status(-1), -1);
        C.bad(x, "status(MIN)", () -> x.status(MIN), -1);
        C.due("status(0)", x.status(0), 8);
        x.leaves(1, 1, 1);
        x.when(0, 0);
        Check.read(x, "?");
        C.due("status(0): a FAULT is none", x.status(0), 9);
        C.due("status(1)", x.status(1), 3);
        C.due("status(2)", x.status(2), 1);
    }

    private static void p29Count() {
        C.about("promise 29, count");
        TiedThrees x = plain(4);
        x.errand(0, 0, 0);
        x.errand(3, 0, 0);
        x.errand(3, 0, 0);
        x.week(0, 0, 0);
        x.sight(0, 0, 0);
        x.sight(0, 0, 0);
        x.type(0, 5);
        countsAre(x, 4, 4, 3, 1, 2, 5);
        C.bad(x, "count(6)", () -> x.count(6));
        C.bad(x, "count(-1)", () -> x.count(-1));
        C.bad(x, "count(MAX)", () -> x.count(MAX));
    }

    private static long hash(int... values) {
        long h = 769;
        for (int v : values) {
            h = 31 * h + v;
        }
        return h;
    }

    private static void p30Digest() {
        C.about("promise 30, digest");
        TiedThrees x = new TiedThrees();
        C.due("digest() of a new one", x.digest(), hash(4, 0, 0, 0, 0, 0, 0, 0, 0, 0, 0, 0, 0, 0, 1));
        x.person(3, 7);
        x.person(1, 2);
        x.person(4, 9);
        x.errand(0, 3, 8);
        x.errand(2, 1, 5);
        x.errand(0, 2, 6);
        x.gain(1, 11);
        x.gain(7, 77);
        x.week(0, 7, 0);
        x.week(7, 0, 0);
        x.sight(2, 3, 4);
        x.type(0, 3);
        x.fair(1);
        C.due("digest()", x.digest(), hash(4, 3, 3, 2, 1, 3,
            3, 7, 2, 3, 8, 2, 6, 1, 2, 0, 4, 9, 1, 1, 5,
            11, 0, 0, 0, 0, 0, 77, 0, 7, 0, 7, 0, 0, 2, 3, 4, 2 * 77 - 11, 6));
    }
}
