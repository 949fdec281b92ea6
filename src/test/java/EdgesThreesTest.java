import java.math.BigInteger;
import java.util.ArrayList;
import java.util.List;

/** The edges of promises 11 to 13: ALL IN THREES, by MOST, by LOT, by ROWS. A test for each sentence. */
public final class EdgesThreesTest {
    private static final Check C = new Check();
    private static final Twins NEW = new Twins(C, "a new object", Towns::nothing);
    private static final Twins SOME = new Twins(C, "some of all", Towns::some);
    private static final Twins FULL = new Twins(C, "all that there is room for", Towns::full);
    private static final int NONE = TiedThrees.NONE;

    public static void main(String[] args) {
        Sentences.run(EdgesThreesTest.class, C, 11, 13);
    }

    /** What a call answers for one of PEOPLE. */
    private interface ThreeOf {
        int on(TiedThrees x, int person);
    }

    /** Each is in the THREE that is told for him, and those in it are told the same. */
    private static void allInThrees(String call, TiedThrees x, ThreeOf it) {
        for (int p = 0; p < x.count(1); p++) {
            int his = it.on(x, p);
            C.due("how many are in " + his + ", " + call + " of " + p, Integer.bitCount(his), 3);
            C.due(call + " of " + p + " has him", his >> p & 1, 1);
            for (int q = 0; q < 31; q++) {
                if ((his >> q & 1) == 1) {
                    C.due(call + " of " + q + ", who is with " + p, it.on(x, q), his);
                }
            }
        }
    }

    // ---- promise 11

    @Says(promise = 11, text = "3, 6 or 9 PEOPLE .. (NO to what goes by it: other numbers)")
    static void mostOfOtherNumbers() {
        for (int people : new int[] {1, 2, 4, 5, 7, 8}) {
            Twins town = NEW.behind(people + " people", x -> Towns.people(x, people));
            town.no("most(NONE)", x -> x.most(NONE), -20);
            town.no("most(0)", x -> x.most(0), -20);
            town.no("most() of the last one", x -> x.most(people - 1), -20);
            town.bad("most(" + people + ")", x -> x.most(people), -10);
        }
        NEW.no("most(NONE)", x -> x.most(NONE), -20);
        for (int people : new int[] {3, 6, 9}) {
            Twins town = NEW.behind(people + " people", x -> Towns.people(x, people));
            town.asked("most(NONE)", x -> x.most(NONE), 0);
            town.asked("most(0)", x -> x.most(0), 7);
            town.asked("most() of the last one", x -> x.most(people - 1), 7 << people - 3);
        }
    }

    @Says(promise = 11, text = "how many (person = NONE) ..: BAD: -10")
    static void mostBad() {
        NEW.badBeyond(-1, -1, "most", (x, p) -> x.most(p), -10);
        SOME.badBeyond(-1, 2, "most", (x, p) -> x.most(p), -10);
        FULL.badBeyond(-1, 8, "most", (x, p) -> x.most(p), -10);
    }

    @Says(promise = 11, text = "of like ones the first (the THREE of the least one, as a number, then that of the least one left, ..)")
    static void firstOfLikeOnes() {
        int[] threes = {7, 7, 7, 56, 56, 56, 448, 448, 448};
        TiedThrees x = Towns.plain(9);
        for (int p = 0; p < 9; p++) {
            C.due("most(" + p + ") of nothing done", x.most(p), threes[p]);
        }
        // 1 and 5 together: 0, 2, 3 (13) is less than 0, 1, 5 (35)
        x = Towns.plain(6);
        x.errand(1, 1, 9);
        x.errand(5, 1, 9);
        C.due("most(NONE)", x.most(NONE), 2);
        C.due("most(0)", x.most(0), 13);
        C.due("most(1)", x.most(1), 50);
        // 4 and 8 together: 0, 1, 2, then 3, 5, 6 (104) is less than 3, 4, 8 (280)
        x = Towns.plain(9);
        x.errand(4, 1, 9);
        x.errand(8, 1, 9);
        C.due("most(NONE)", x.most(NONE), 2);
        C.due("most(0)", x.most(0), 7);
        C.due("most(3)", x.most(3), 104);
        C.due("most(4)", x.most(4), 400);
    }

    @Says(promise = 11, text = "that by which most ERRANDS are DONE in all: not the first one, if another does more")
    static void mostInAll() {
        TiedThrees x = Towns.plain(6);
        x.errand(0, 1, 9);
        x.errand(5, 1, 9);
        C.due("most(NONE)", x.most(NONE), 2);
        C.due("most(0): 0, 1, 5 is the first with both", x.most(0), 35);
        x.errand(1, 2, 9);
        x.errand(2, 2, 9);
        C.due("most(NONE)", x.most(NONE), 4);
        // 0 decides where three differ, and is with 5; 1 and 2 are together: 0, 3, 5
        C.due("most(0)", x.most(0), 41);
        C.due("most(2)", x.most(2), 22);
        // three pairs that go their own ways, one idler to each: 0 to the pair whose THREE is the least, ..
        x = Towns.plain(9);
        int[][] pairs = {{7, 8, 1}, {5, 6, 3}, {3, 4, 2}};
        for (int[] pair : pairs) {
            x.errand(pair[0], pair[2], 9);
            x.errand(pair[1], pair[2], 9);
        }
        C.due("most(NONE)", x.most(NONE), 6);
        C.due("most(0)", x.most(0), 25);
        C.due("most(1)", x.most(1), 98);
        C.due("most(2)", x.most(2), 388);
    }

    @Says(promise = 11, text = "that by which most ERRANDS are DONE in all: whichever it is, from the first to the last")
    static void eachSplitOfSixAndNine() {
        int met = 0;
        for (int a = 7; a < 64; a++) {
            if (a % 2 == 1 && Integer.bitCount(a) == 3) {
                onlySplitIs(6, a, 63 - a, 0);
                met++;
            }
        }
        C.due("splits of six", met, 10);
        met = 0;
        for (int a = 7; a < 512; a += 2) {
            int left = 511 - a;
            for (int b = left; b > 0; b = b - 1 & left) {
                if (Integer.bitCount(a) == 3 && Integer.bitCount(b) == 3 && (b & left & -left) != 0) {
                    onlySplitIs(9, a, b, left - b);
                    met++;
                }
            }
        }
        C.due("splits of nine", met, 280);
    }

    /** Each of the THREES wants to be at another PLACE by HOUR 0, so that no other split gets all of it DONE. */
    private static void onlySplitIs(int people, int a, int b, int c) {
        TiedThrees x = Towns.plain(people);
        for (int p = 0; p < people; p++) {
            x.errand(p, (a >> p & 1) == 1 ? 1 : (b >> p & 1) == 1 ? 3 : 0, 0);
        }
        C.due("most(NONE)", x.most(NONE), people);
        for (int p = 0; p < people; p++) {
            C.due("most(" + p + ")", x.most(p), (a >> p & 1) == 1 ? a : (b >> p & 1) == 1 ? b : c);
        }
    }

    @Says(promise = 11, text = "3, 6 or 9 PEOPLE: as many as there are then, asked again and again")
    static void mostAsPeopleComeAndGo() {
        TiedThrees x = new TiedThrees();
        for (int people : new int[] {9, 3, 6, 9, 6, 3}) {
            x.places(4);
            Towns.people(x, people);
            x.errand(people - 1, 0, 0);
            for (int twice = 0; twice < 2; twice++) {
                C.due("most(NONE) of " + people, x.most(NONE), 1);
                C.due("most(0) of " + people, x.most(0), 7);
                C.due("most() of the last one of " + people, x.most(people - 1), 7 << people - 3);
                C.due("most(" + people + ")", x.most(people), -10);
            }
        }
    }

    @Says(promise = 11, text = "(by DAYS): not by BEST")
    static void mostIsByDays() {
        TiedThrees x = Towns.plain(3);
        x.errand(2, 1, 9);
        C.due("most(NONE)", x.most(NONE), 0);
        x.errand(2, 0, 0);
        C.due("most(NONE): he does not come to PLACE 1", x.most(NONE), 1);
        TiedThrees y = Towns.plain(9);
        for (int i = 0; i < 36; i++) {
            y.errand(i % 9, 0, 0);
        }
        C.due("most(NONE): as many as there is room for", y.most(NONE), 36);
    }

    @Says(promise = 11, text = "ALL IN THREES: .. each in one of as many THREES")
    static void mostHasEachInOne() {
        for (int people : new int[] {3, 6, 9}) {
            for (int way = 1; way <= 5; way++) {
                TiedThrees x = new TiedThrees();
                Towns.people(x, people);
                for (int e = 0; e < 4 * people; e++) {
                    x.errand(e % people, e * way % 4, e * way % 10);
                }
                allInThrees("most", x, TiedThrees::most);
            }
        }
    }

    // ---- promise 12

    @Says(promise = 12, text = "LOT by a SEED (0 .. 999999); BAD")
    static void lotBad() {
        SOME.badBeyond(0, 999999, "lot(seed, 0)", (x, seed) -> x.lot(seed, 0));
        FULL.badBeyond(0, 999999, "lot(seed, 8)", (x, seed) -> x.lot(seed, 8));
        SOME.badBeyond(0, 2, "lot(0, person)", (x, p) -> x.lot(0, p));
        FULL.badBeyond(0, 8, "lot(999999, person)", (x, p) -> x.lot(999999, p));
        NEW.badBeyond(0, -1, "lot(0, person)", (x, p) -> x.lot(0, p));
        SOME.asked("lot(0, 0)", x -> x.lot(0, 0), 7);
        SOME.asked("lot(999999, 2)", x -> x.lot(999999, 2), 7);
    }

    @Says(promise = 12, text = "NO to what goes by it: other numbers; BAD ahead of NO")
    static void lotOfOtherNumbers() {
        for (int people : new int[] {1, 2, 4, 5, 7, 8}) {
            Twins town = NEW.behind(people + " people", x -> Towns.people(x, people));
            town.no("lot(0, 0)", x -> x.lot(0, 0));
            town.no("lot() of the last one", x -> x.lot(999999, people - 1));
            town.bad("lot(0, " + people + ")", x -> x.lot(0, people));
            town.bad("lot(-1, 0)", x -> x.lot(-1, 0));
            town.bad("lot(1000000, 0)", x -> x.lot(1000000, 0));
        }
    }

    @Says(promise = 12, text = "X becomes X times 1103515245 and 12345, by 2147483648 what is left over: at both ends of SEED")
    static void lotsDrawn() {
        // worked out apart from the program; X by 65536 and who is drawn, for 9 and SEED 0: 0, 21468 of 7, 9988 of 5, ..
        int[][] due = {{0, 7, 56}, {1, 25, 38}, {2, 21, 42}, {3, 41, 22}, {5, 11, 52}, {999998, 35, 28}, {999999, 25, 38},
            {0, 259, 84, 168}, {1, 161, 322, 28}, {2, 97, 274, 140}, {5, 261, 50, 200}, {6, 131, 44, 336},
            {999998, 137, 50, 324}, {999999, 67, 388, 56}};
        for (int[] row : due) {
            int people = 3 * (row.length - 1);
            TiedThrees x = Towns.plain(people);
            for (int p = 0; p < people; p++) {
                int his = row[1];
                for (int i = 2; i < row.length; i++) {
                    his = (row[i] >> p & 1) == 1 ? row[i] : his;
                }
                C.due("lot(" + row[0] + ", " + p + ") of " + people, x.lot(row[0], p), his);
            }
        }
    }

    @Says(promise = 12, text = "by how many others are left left over: one is left, and none behind him")
    static void lotOfTheLastOnes() {
        for (int seed = 0; seed < 100; seed++) {
            C.due("lot(" + seed + ", 2) of three", Towns.plain(3).lot(seed, 2), 7);
        }
    }

    @Says(promise = 12, text = "ALL IN THREES: .. each in one of as many THREES")
    static void lotHasEachInOne() {
        for (int people : new int[] {3, 6, 9}) {
            for (int seed : new int[] {0, 1, 65535, 65536, 65537, 500000, 999998, 999999}) {
                allInThrees("lot(" + seed + ")", Towns.plain(people), (x, p) -> x.lot(seed, p));
            }
        }
    }

    @Says(promise = 12, text = "as long as PEOPLE are left: the least one of them, and twice: X .. by 65536 (cut), .. the one with number r of these (rising)")
    static void lotsOfManySeeds() {
        for (int people : new int[] {3, 6, 9}) {
            TiedThrees x = Towns.plain(people);
            for (int i = 0; i < 50; i++) {
                int seed = i * 20408 % 1000000;
                lotIs(x, people, seed);
                lotIs(x, people, 999999 - i);
                lotIs(Towns.plain(people), people, i);
                lotIs(Towns.plain(people), people, 65536 * (i % 15 + 1) - 1 + i / 15 % 2);
            }
        }
    }

    /** Draws from a list of those who are left, with numbers that can not wrap around. */
    private static void lotIs(TiedThrees x, int people, int seed) {
        List<Integer> left = new ArrayList<>();
        for (int p = 0; p < people; p++) {
            left.add(p);
        }
        BigInteger drawn = BigInteger.valueOf(seed);
        List<Integer> lots = new ArrayList<>();
        while (!left.isEmpty()) {
            int three = 1 << left.remove(0);
            for (int twice = 0; twice < 2; twice++) {
                drawn = drawn.multiply(BigInteger.valueOf(1103515245)).add(BigInteger.valueOf(12345)).mod(BigInteger.valueOf(2147483648L));
                BigInteger r = drawn.divide(BigInteger.valueOf(65536)).mod(BigInteger.valueOf(left.size()));
                three += 1 << left.remove(r.intValue());
            }
            lots.add(three);
        }
        int last = people - 1;
        C.due("lot(" + seed + ", 0) of " + people, x.lot(seed, 0), lots.get(0));
        int his = lots.stream().filter(three -> (three >> last & 1) == 1).findFirst().orElse(0);
        C.due("lot(" + seed + ", " + last + ") of " + people, x.lot(seed, last), his);
    }

    @Says(promise = 12, text = "LOT by a SEED: by that alone, whatever their KINDS, PACES, ERRANDS, and asked again and again")
    static void lotGoesByTheSeedAlone() {
        TiedThrees full = FULL.one();
        for (int seed : new int[] {0, 1, 2, 999998, 999999}) {
            for (int p = 0; p < 9; p++) {
                int person = p;
                int due = Towns.plain(9).lot(seed, p);
                C.due("lot(" + seed + ", " + p + ") of a full town", full.lot(seed, p), due);
                C.due("lot(" + seed + ", " + p + ") again", full.lot(seed, p), due);
                if (p % 4 == 0) {
                    FULL.asked("lot(" + seed + ", " + p + ")", x -> x.lot(seed, person), due);
                }
            }
        }
    }

    // ---- promise 13

    @Says(promise = 13, text = "ROWS of w WEEKS (1 .. 4)")
    static void rowsOfEachLength() {
        long[][] due = {{1, 0, 0, 0}, {10, 0, 0, 0}, {280, 10080, 20160, 20160}};
        for (int threes = 1; threes <= 3; threes++) {
            int people = 3 * threes;
            Twins town = NEW.behind(people + " people", x -> Towns.people(x, people));
            for (int w = 1; w <= 4; w++) {
                int weeks = w;
                town.asked("rows(" + w + ")", x -> x.rows(weeks), due[threes - 1][w - 1]);
            }
            town.badBeyond(1, 4, "rows", (x, w) -> x.rows(w));
        }
    }

    @Says(promise = 13, text = "ROWS of w WEEKS: of as many PEOPLE as there are then, asked again and again")
    static void rowsAsPeopleComeAndGo() {
        TiedThrees x = new TiedThrees();
        for (int people : new int[] {9, 3, 6, 9, 6, 3}) {
            x.places(4);
            Towns.people(x, people);
            for (int twice = 0; twice < 2; twice++) {
                C.due("rows(1) of " + people, x.rows(1), people == 3 ? 1 : people == 6 ? 10 : 280);
                C.due("rows(2) of " + people, x.rows(2), people == 9 ? 10080 : 0);
            }
        }
    }

    @Says(promise = 13, text = "NO to what goes by it: other numbers; BAD ahead of NO")
    static void rowsOfOtherNumbers() {
        for (int people : new int[] {0, 1, 2, 4, 5, 7, 8}) {
            Twins town = NEW.behind(people + " people", x -> Towns.people(x, people));
            town.no("rows(1)", x -> x.rows(1));
            town.no("rows(4)", x -> x.rows(4));
            town.badBeyond(1, 4, "rows", (x, w) -> x.rows(w));
        }
    }

    @Says(promise = 13, text = "ROWS of w WEEKS: whatever WEEKS have been told")
    static void rowsAreOfNoWeeksTold() {
        FULL.asked("rows(1)", x -> x.rows(1), 280);
        FULL.asked("rows(4)", x -> x.rows(4), 20160);
        SOME.asked("rows(1)", x -> x.rows(1), 1);
        SOME.asked("rows(2)", x -> x.rows(2), 0);
    }

    @Says(promise = 13, text = "in each ALL IN THREES, no two of PEOPLE together in two WEEKS")
    static void noTwoTogetherAgain() {
        for (int people = 3; people <= 9; people += 3) {
            TiedThrees x = Towns.plain(people);
            List<int[]> weeks = new ArrayList<>();
            weeksOf(new int[people], 0, weeks);
            long[] rows = new long[5];
            countRows(weeks, new ArrayList<>(), rows);
            for (int w = 1; w <= 4; w++) {
                C.due("rows(" + w + ") of " + people, x.rows(w), rows[w]);
            }
        }
    }

    /** All ways to put PEOPLE in groups 1, 2, .. of three, the first group with a new one being the next; 0: not yet in one. */
    private static void weeksOf(int[] group, int person, List<int[]> all) {
        if (person == group.length) {
            all.add(group.clone());
            return;
        }
        int[] size = new int[group.length + 2];
        for (int p = 0; p < person; p++) {
            size[group[p]]++;
        }
        for (int g = 1; g <= group.length / 3 && (g == 1 || size[g - 1] > 0); g++) {
            if (size[g] < 3) {
                group[person] = g;
                weeksOf(group, person + 1, all);
                group[person] = 0;
            }
        }
    }

    /** Counts each row of up to four WEEKS, in each order by itself. */
    private static void countRows(List<int[]> weeks, List<int[]> row, long[] rows) {
        rows[row.size()]++;
        if (row.size() == rows.length - 1) {
            return;
        }
        for (int[] week : weeks) {
            if (row.stream().noneMatch(earlier -> meetAgain(earlier, week))) {
                row.add(week);
                countRows(weeks, row, rows);
                row.remove(row.size() - 1);
            }
        }
    }

    private static boolean meetAgain(int[] earlier, int[] later) {
        for (int p = 0; p < earlier.length; p++) {
            for (int q = p + 1; q < earlier.length; q++) {
                if (earlier[p] == earlier[q] && later[p] == later[q]) {
                    return true;
                }
            }
        }
        return false;
    }

    @Says(promise = 13, text = "(WEEKS in another order are others)")
    static void eachOrderCounts() {
        // two WEEKS of nine in 2 orders, three in 6, four in 24: 5040, 3360 and 840 sets of WEEKS
        TiedThrees x = Towns.plain(9);
        C.due("rows(2)", x.rows(2), 2 * 5040);
        C.due("rows(3)", x.rows(3), 6 * 3360);
        C.due("rows(4)", x.rows(4), 24 * 840);
    }
}
