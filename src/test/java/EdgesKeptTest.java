import java.util.ArrayList;
import java.util.List;

/** The edges of promises 22 to 30: sights, THE FRACTION, IMAGES, STATUS, what there is. A test for each sentence. */
public final class EdgesKeptTest {
    private static final Check C = new Check();
    private static final Twins NEW = new Twins(C, "a new object", Towns::nothing);
    private static final Twins SOME = new Twins(C, "some of all", Towns::some);
    private static final Twins FULL = new Twins(C, "all that there is room for", Towns::full);
    private static final int NONE = TiedThrees.NONE;

    public static void main(String[] args) {
        Sentences.run(EdgesKeptTest.class, C, 22, 30);
    }

    // ---- promise 22

    @Says(promise = 22, text = "one was at a PLACE as an HOUR ended; BAD")
    static void sightBad() {
        NEW.badBeyond(0, -1, "sight(person, 0, 0)", (x, p) -> x.sight(p, 0, 0));
        SOME.badBeyond(0, 2, "sight(person, 0, 0)", (x, p) -> x.sight(p, 0, 0));
        SOME.badBeyond(0, 3, "sight(0, place, 0)", (x, place) -> x.sight(0, place, 0));
        SOME.badBeyond(0, 9, "sight(0, 0, hour)", (x, hour) -> x.sight(0, 0, hour));
        C.due("sight(0, 0, 0)", SOME.one().sight(0, 0, 0), 1);
        C.due("sight(2, 3, 9)", SOME.one().sight(2, 3, 9), 1);
        Twins nine = FULL.behind("no sights", TiedThrees::blind);
        nine.badBeyond(0, 8, "sight(person, 5, 9)", (x, p) -> x.sight(p, 5, 9));
        nine.badBeyond(0, 5, "sight(8, place, 9)", (x, place) -> x.sight(8, place, 9));
        C.due("sight(8, 5, 9)", nine.one().sight(8, 5, 9), 0);
    }

    @Says(promise = 22, text = "SIGHTS 0 .. 4, as they come: its number; FULL: 5")
    static void asManySightsAsThereIsRoomFor() {
        TiedThrees x = Towns.plain(1);
        for (int i = 0; i < 5; i++) {
            C.due("sight(0, 0, 0)", x.sight(0, 0, 0), i);
            C.due("count(4)", x.count(4), i + 1);
        }
        FULL.full("sight(0, 0, 0)", y -> y.sight(0, 0, 0));
        FULL.full("sight(8, 5, 9)", y -> y.sight(8, 5, 9));
        FULL.behind("a 6th refused", y -> y.sight(0, 0, 0)).full("sight(0, 0, 0)", y -> y.sight(0, 0, 0));
    }

    @Says(promise = 22, text = "Refused .. the first of: BAD -2 .. FULL -4")
    static void sightBadAheadOfFull() {
        FULL.badBeyond(0, 8, "sight(person, 0, 0)", (x, p) -> x.sight(p, 0, 0));
        FULL.badBeyond(0, 5, "sight(0, place, 0)", (x, place) -> x.sight(0, place, 0));
        FULL.badBeyond(0, 9, "sight(0, 0, hour)", (x, hour) -> x.sight(0, 0, hour));
    }

    // ---- promise 23

    @Says(promise = 23, text = "No SIGHTS: how many there were")
    static void blindOfNoneAndOfAll() {
        C.due("blind() of none", new TiedThrees().blind(), 0);
        C.due("blind() of one", SOME.one().blind(), 1);
        TiedThrees x = FULL.one();
        C.due("blind() of as many as there is room for", x.blind(), 5);
        C.due("count(4)", x.count(4), 0);
        C.due("blind() again", x.blind(), 0);
        C.due("sight() behind it", x.sight(0, 0, 0), 0);
        C.due("count(4)", x.count(4), 1);
        C.due("status(0)", x.status(0), 0);
    }

    @Says(promise = 23, text = "No SIGHTS: those of earlier do not count, and all else stays")
    static void blindLeavesTheRest() {
        TiedThrees x = SOME.one();
        x.blind();
        long digest = x.digest();
        x.sight(0, 3, 9);
        C.due("which(0, NONE) by a SIGHT that can not be", x.which(0, NONE), 0);
        x.blind();
        C.due("which(0, NONE)", x.which(0, NONE), 1);
        C.due("digest()", x.digest(), digest);
        C.due("count(3)", x.count(3), 1);
    }

    // ---- promise 24

    @Says(promise = 24, text = "BAD: -10: i below -1, too")
    static void whichBad() {
        NEW.badBeyond(0, -1, "which(person, NONE)", (x, p) -> x.which(p, NONE), -10);
        SOME.badBeyond(0, 2, "which(person, 0)", (x, p) -> x.which(p, 0), -10);
        FULL.badBeyond(0, 8, "which(person, NONE)", (x, p) -> x.which(p, NONE), -10);
        for (int i : new int[] {-2, -3, -5, Integer.MIN_VALUE}) {
            NEW.bad("which(0, " + i + ")", x -> x.which(0, i), -10);
            SOME.bad("which(0, " + i + ")", x -> x.which(0, i), -10);
            FULL.bad("which(8, " + i + ")", x -> x.which(8, i), -10);
        }
    }

    @Says(promise = 24, text = "how many (i = NONE), the i-th (0 on); (rising, as numbers): all that there can be")
    static void whichOfNine() {
        for (int person = 0; person < 9; person++) {
            TiedThrees x = Towns.plain(9);
            int i = 0;
            for (int set = 0; set < 512; set++) {
                if (Integer.bitCount(set) == 3 && (set >> person & 1) == 1) {
                    C.due("which(" + person + ", " + i + ")", x.which(person, i), set);
                    i++;
                }
            }
            C.due("how many there are", i, 28);
            C.due("which(" + person + ", NONE)", x.which(person, NONE), 28);
            C.due("which(" + person + ", 28)", x.which(person, 28), -5);
        }
    }

    @Says(promise = 24, text = "-5: not so many (no refusal)")
    static void whichOfNotSoMany() {
        Twins three = NEW.behind("three people", x -> Towns.people(x, 3));
        three.asked("which(2, NONE)", x -> x.which(2, NONE), 1);
        three.asked("which(2, 0)", x -> x.which(2, 0), 7);
        three.asked("which(2, 1)", x -> x.which(2, 1), -5);
        three.asked("which(2, MAX)", x -> x.which(2, Integer.MAX_VALUE), -5);
        for (int people : new int[] {1, 2}) {
            Twins few = NEW.behind(people + " people", x -> Towns.people(x, people));
            few.asked("which(0, NONE)", x -> x.which(0, NONE), 0);
            few.asked("which(0, 0)", x -> x.which(0, 0), -5);
        }
        FULL.asked("which(0, 28)", x -> x.which(0, 28), -5);
    }

    @Says(promise = 24, text = "WHICH THREES of one it may have been by all SIGHTS of him")
    static void whichBySights() {
        // 2 and 3 go to 1 together; no other two have a way of their own
        TiedThrees x = Towns.plain(5);
        x.errand(2, 1, 9);
        x.errand(3, 1, 9);
        x.sight(4, 1, 0);
        C.due("which(4, NONE)", x.which(4, NONE), 1);
        C.due("which(4, 0)", x.which(4, 0), 28);
        C.due("which(4, 1)", x.which(4, 1), -5);
        C.due("which(3, NONE): no SIGHT of 3", x.which(3, NONE), 6);
        x.sight(4, 1, 9);
        C.due("which(4, NONE): still", x.which(4, NONE), 1);
        x.sight(3, 0, 0);
        C.due("which(4, NONE): SIGHTS of others do not count", x.which(4, NONE), 1);
        C.due("which(3, NONE): without 2", x.which(3, NONE), 3);
        C.due("which(3, 0): 0, 1, 3", x.which(3, 0), 11);
        C.due("which(3, 2): 1, 3, 4", x.which(3, 2), 26);
        x.sight(4, 0, 5);
        C.due("which(4, NONE): not all", x.which(4, NONE), 0);
        C.due("which(4, 0)", x.which(4, 0), -5);
    }

    @Says(promise = 24, text = "by all SIGHTS of him: the first, the last of as many as there is room for, at both ends of the day")
    static void eachSightCounts() {
        for (int against = 0; against < 5; against++) {
            TiedThrees x = Towns.plain(3);
            for (int i = 0; i < 5; i++) {
                x.sight(1, i == against ? 1 : 0, i == 4 ? 9 : i);
            }
            C.due("which(1, NONE) with SIGHT " + against + " against it", x.which(1, NONE), 0);
            C.due("which(0, NONE)", x.which(0, NONE), 1);
        }
        TiedThrees x = Towns.plain(3);
        for (int i = 0; i < 5; i++) {
            x.sight(1, 0, i == 4 ? 9 : i);
        }
        C.due("which(1, NONE) with none against it", x.which(1, NONE), 1);
    }

    // ---- promise 25

    @Says(promise = 25, text = "THE FRACTION: above (0), below (1). BAD: -1000")
    static void partBad() {
        for (Twins town : new Twins[] {NEW, SOME, FULL}) {
            town.badBeyond(0, 1, "part", (x, what) -> x.part(what), -1000);
            town.bad("part(-1)", x -> x.part(-1), -1000);
        }
        NEW.asked("part(0)", x -> x.part(0), 0);
        NEW.asked("part(1)", x -> x.part(1), 1);
    }

    @Says(promise = 25, text = "below above 0 (above may be below 0): the least and the most")
    static void leastAndMostPart() {
        TiedThrees x = new TiedThrees();
        x.gain(6, 99);
        x.gain(2, 99);
        x.gain(4, 99);
        C.due("fair(0)", x.fair(0), 1);
        C.due("part(0)", x.part(0), -66);
        C.due("part(1)", x.part(1), 1);
        x.gain(4, 98);
        C.due("part(0) until FAIR is asked again", x.part(0), -66);
        x.fair(0);
        C.due("part(0)", x.part(0), -395);
        C.due("part(1)", x.part(1), 6);
        x.fair(3);
        C.due("part(0) behind a refused one", x.part(0), -395);
    }

    // ---- promises 26, 27

    @Says(promise = 26, text = "IMAGES 0, 1; An IMAGE is kept: 1. BAD")
    static void imageBad() {
        for (Twins town : new Twins[] {NEW, SOME, FULL}) {
            town.badBeyond(0, 1, "image", (x, i) -> x.image(i));
            town.bad("image(-1)", x -> x.image(-1));
            C.due("image(0)", town.one().image(0), 1);
            C.due("image(1)", town.one().image(1), 1);
        }
    }

    @Says(promise = 26, text = "An IMAGE is kept: nothing that can be seen changes but that IMAGE")
    static void imageLeavesTheRest() {
        for (int kept = 0; kept < 2; kept++) {
            TiedThrees x = FULL.one();
            TiedThrees y = FULL.one();
            x.image(kept);
            C.due("digest()", x.digest(), y.digest());
            C.due("from() of the other one", x.from(1 - kept), y.from(1 - kept));
            C.due("digest()", x.digest(), y.digest());
        }
    }

    @Says(promise = 26, text = "keep all but them, THE TEXT, THE FRACTION and STATUS: nothing there, and as much as there is room for")
    static void imagesKeepNothingAndAll() {
        TiedThrees x = new TiedThrees();
        x.image(0);
        long none = x.digest();
        Towns.full(x);
        x.image(1);
        long all = x.digest();
        x.image(0);
        x.places(3);
        x.gain(1, 1);
        C.due("from(1)", x.from(1), 1);
        C.due("digest() with all", x.digest(), all);
        for (int p = 0; p < 9; p++) {
            C.due("drop(" + p + ")", x.drop(p), 3);
        }
        x.loose();
        x.blind();
        C.due("from(0), kept again in between", x.from(0), 1);
        C.due("digest() with all", x.digest(), all);
        TiedThrees y = new TiedThrees();
        y.image(1);
        Towns.some(y);
        y.clear();
        C.due("from(1)", y.from(1), 1);
        y.gain(6, 0);
        y.gain(7, 0);
        y.fair(0);
        C.due("digest() with nothing", y.digest(), none);
    }

    @Says(promise = 26, text = "keep all: PLACES, PEOPLE, ERRANDS, GAINS, WEEKS, SIGHTS, each of them")
    static void imagesKeepEachPart() {
        List<Twins.Setup> changes = List.of(x -> x.places(3), x -> x.person(0, 1), x -> x.errand(2, 0, 0), x -> x.drop(0),
            x -> x.gain(1, 99), x -> x.gain(7, 99), x -> x.week(0, 0, 7), TiedThrees::loose, x -> x.sight(0, 0, 0),
            TiedThrees::blind, TiedThrees::read, EdgesKeptTest::anotherErrand, EdgesKeptTest::anotherWeek,
            EdgesKeptTest::anotherSight, EdgesKeptTest::otherPeople);
        for (int image = 0; image < 2; image++) {
            for (int i = 0; i < changes.size(); i++) {
                TiedThrees x = SOME.one();
                x.image(image);
                long digest = x.digest();
                changes.get(i).on(x);
                C.that("change " + i + " is seen", x.digest() != digest);
                C.due("from(" + image + ")", x.from(image), 1);
                C.due("digest() of what was kept, behind change " + i, x.digest(), digest);
            }
        }
    }

    // as many as there were, in the same place, but not the same

    private static void anotherErrand(TiedThrees x) {
        x.drop(0);
        x.errand(0, 3, 8);
    }

    private static void anotherWeek(TiedThrees x) {
        x.loose();
        x.week(0, 7, 0);
    }

    private static void anotherSight(TiedThrees x) {
        x.blind();
        x.sight(2, 3, 9);
    }

    private static void otherPeople(TiedThrees x) {
        x.places(4);
        for (int p = 0; p < 3; p++) {
            x.person(4 - p, 9 - p);
        }
    }

    @Says(promise = 26, text = "keep all: the last ones of each, too, when as many others have been told since")
    static void imagesKeepAllOfAFullTown() {
        for (int image = 0; image < 2; image++) {
            TiedThrees x = FULL.one();
            x.image(image);
            long digest = x.digest();
            x.places(2);
            for (int p = 0; p < 9; p++) {
                x.person(4 - p % 5, 9 - p);
            }
            for (int e = 0; e < 36; e++) {
                x.errand(e % 9, 1 - e % 2, e % 7);
            }
            for (int i = 0; i < 6; i++) {
                x.week(448, 56, i == 5 ? 7 : 0);
            }
            for (int i = 0; i < 5; i++) {
                x.sight(i, 1, 9 - i);
            }
            C.due("count(2)", x.count(2), 36);
            C.due("from(" + image + ")", x.from(image), 1);
            C.due("digest()", x.digest(), digest);
        }
    }

    @Says(promise = 26, text = "An IMAGE is kept: kept again, it is the later one")
    static void imageKeptAgain() {
        TiedThrees x = FULL.one();
        x.places(5);
        x.image(0);
        x.places(2);
        C.due("from(0)", x.from(0), 1);
        C.due("count(0)", x.count(0), 5);
        C.due("count(1)", x.count(1), 0);
        C.due("from(1)", x.from(1), 1);
        C.due("count(1) of the other one", x.count(1), 9);
    }

    @Says(promise = 27, text = "It goes on from an IMAGE: 1. BAD; NO: none was kept")
    static void fromBadAndNo() {
        for (Twins town : new Twins[] {NEW, SOME, FULL}) {
            town.badBeyond(0, 1, "from", (x, i) -> x.from(i));
            town.bad("from(-1)", x -> x.from(-1));
        }
        NEW.no("from(0)", x -> x.from(0));
        NEW.no("from(1)", x -> x.from(1));
        SOME.no("from(1), while 0 is kept", x -> x.from(1));
        C.due("from(0)", SOME.one().from(0), 1);
        NEW.behind("image 1 kept", x -> x.image(1)).no("from(0), while 1 is kept", x -> x.from(0));
        NEW.behind("an image refused", x -> x.image(2)).no("from(0)", x -> x.from(0));
    }

    @Says(promise = 27, text = "It goes on from an IMAGE: which stays, whatever comes then")
    static void imageStaysAsItIs() {
        TiedThrees x = FULL.one();
        x.from(1);
        long digest = x.digest();
        x.drop(0);
        x.errand(0, 0, 0);
        x.gain(3, 0);
        x.week(7, 0, 0);
        x.sight(0, 0, 0);
        C.due("from(1) again", x.from(1), 1);
        C.due("digest()", x.digest(), digest);
        x.places(1);
        C.due("from(1) a third time", x.from(1), 1);
        C.due("digest()", x.digest(), digest);
    }

    @Says(promise = 27, text = "all but them, THE TEXT, THE FRACTION and STATUS: these stay")
    static void fromLeavesTheRest() {
        TiedThrees x = FULL.one();
        x.places(0);
        x.from(2);
        x.person(0, 1);
        long above = x.part(0);
        C.due("from(0)", x.from(0), 1);
        C.due("count(5)", x.count(5), 250);
        C.due("part(0)", x.part(0), above);
        C.due("status(0)", x.status(0), 2);
        C.due("status(1)", x.status(1), 0);
        C.due("status(2)", x.status(2), 1);
        x.clear();
        Towns.type(x, "places 2;");
        x.fair(0);
        above = x.part(0);
        C.due("from(1)", x.from(1), 1);
        C.due("count(5)", x.count(5), 9);
        C.due("part(0)", x.part(0), above);
        C.due("read()", x.read(), 1);
        C.due("count(0)", x.count(0), 2);
    }

    // ---- promise 28

    @Says(promise = 28, text = "STATUS: BAD (0), NO (1), FULL (2). -1: another what (counts as BAD)")
    static void statusOfAnother() {
        for (Twins town : new Twins[] {NEW, SOME, FULL}) {
            town.badBeyond(0, 2, "status", (x, what) -> x.status(what), -1);
            town.bad("status(-2)", x -> x.status(-2), -1);
        }
        for (int what = 0; what <= 2; what++) {
            int asked = what;
            NEW.asked("status(" + what + ")", x -> x.status(asked), 0);
        }
        TiedThrees x = new TiedThrees();
        x.status(3);
        x.status(-1);
        C.due("status(0)", x.status(0), 2);
        C.due("status(0) again", x.status(0), 2);
    }

    @Says(promise = 28, text = "how many calls were refused as BAD, NO, FULL: each by itself")
    static void statusOfEach() {
        TiedThrees x = FULL.one();
        for (int i = 1; i <= 9; i++) {
            x.person(0, 0);
            x.person(0, 1);
            x.person(0, 1);
            C.due("status(0)", x.status(0), i);
            C.due("status(1)", x.status(1), 0);
            C.due("status(2)", x.status(2), 2 * i);
        }
        x.places(4);
        for (int i = 1; i <= 9; i++) {
            x.rows(1);
            C.due("status(1)", x.status(1), i);
        }
        C.due("status(0)", x.status(0), 9);
        C.due("status(2)", x.status(2), 18);
    }

    @Says(promise = 28, text = "(where others are told they count as these)")
    static void otherAnswersCountToo() {
        TiedThrees x = Towns.plain(4);
        x.day(0, 0);
        x.most(4);
        x.which(4, 0);
        x.part(2);
        x.status(3);
        C.due("status(0): -10, -10, -10, -1000, -1", x.status(0), 5);
        x.most(NONE);
        x.most(0);
        C.due("status(1): -20, -20", x.status(1), 2);
        x.which(0, 3);
        Towns.read(x, "x");
        x.leaves(0, 0, 1);
        x.when(0, 0);
        C.due("status(0): -5, a FAULT, 7 and NONE are no refusals", x.status(0), 5);
        C.due("status(1)", x.status(1), 2);
        C.due("status(2)", x.status(2), 0);
    }

    // ---- promise 29

    @Says(promise = 29, text = "How many: 0 PLACES .. 5 bytes of THE TEXT. BAD")
    static void countBad() {
        for (Twins town : new Twins[] {NEW, SOME, FULL}) {
            town.badBeyond(0, 5, "count", (x, what) -> x.count(what));
        }
    }

    @Says(promise = 29, text = "0 PLACES, 1 PEOPLE, 2 ERRANDS of all, 3 WEEKS, 4 SIGHTS, 5 bytes of THE TEXT: none, and as many as there is room for")
    static void countOfNoneAndOfAll() {
        int[] least = {4, 0, 0, 0, 0, 0};
        int[] some = {4, 3, 3, 1, 1, 20};
        int[] most = {6, 9, 36, 6, 5, 250};
        for (int what = 0; what <= 5; what++) {
            int asked = what;
            NEW.asked("count(" + what + ")", x -> x.count(asked), least[what]);
            SOME.asked("count(" + what + ")", x -> x.count(asked), some[what]);
            FULL.asked("count(" + what + ")", x -> x.count(asked), most[what]);
        }
    }

    // ---- promise 30

    private static long digestOf(List<Integer> values) {
        long h = 769;
        for (int v : values) {
            h = 31 * h + v;
        }
        return h;
    }

    @Says(promise = 30, text = "h = 769; then h = 31 h + v for each v: where there is nothing")
    static void digestOfNothing() {
        C.due("digest()", new TiedThrees().digest(), digestOf(List.of(4, 0, 0, 0, 0, 0, 0, 0, 0, 0, 0, 0, 0, 0, 1)));
        NEW.asked("digest()", TiedThrees::digest, new TiedThrees().digest());
        TiedThrees x = new TiedThrees();
        x.places(1);
        C.due("digest()", x.digest(), digestOf(List.of(1, 0, 0, 0, 0, 0, 0, 0, 0, 0, 0, 0, 0, 0, 1)));
    }

    @Says(promise = 30, text = "for each v ..: of as much as there is room for; h wraps around")
    static void digestOfAll() {
        TiedThrees x = FULL.one();
        List<Integer> v = new ArrayList<>(List.of(6, 9, 36, 6, 5, 250));
        for (int p = 0; p < 9; p++) {
            v.addAll(List.of(p % 5, 1 + p, 4));
            for (int e = p; e < 36; e += 9) {
                v.addAll(List.of((e + e / 9) % 6, 9 - e % 10));
            }
        }
        for (int set = 1; set <= 6; set++) {
            v.add(99 - set);
        }
        v.add(1);
        for (int i = 0; i < 6; i++) {
            v.addAll(List.of(7 << i % 3, 0, i == 5 ? 448 : 0));
        }
        for (int i = 0; i < 5; i++) {
            v.addAll(List.of(8 - i, i, 2 * i));
        }
        // FAIR of 2: 4 alone, 6 less 2 and 5 less 1, 7 less 3 twice: 190, -4, -4, -190, by 6
        v.addAll(List.of(-4, 3));
        C.due("digest()", x.digest(), digestOf(v));
    }

    @Says(promise = 30, text = "THE FRACTION: above it may be below 0; IMAGES and STATUS, and what the TEXT's bytes are, are not in it")
    static void digestOfTheFraction() {
        TiedThrees x = new TiedThrees();
        x.gain(2, 1);
        x.fair(0);
        long due = digestOf(List.of(4, 0, 0, 0, 0, 0, 0, 1, 0, 0, 0, 0, 0, -1, 6));
        C.due("digest()", x.digest(), due);
        x.image(0);
        x.places(0);
        C.due("digest()", x.digest(), due);
        TiedThrees a = new TiedThrees();
        TiedThrees b = new TiedThrees();
        a.type(0, 8);
        b.type(-1, 8);
        C.due("digest()", a.digest(), b.digest());
    }

    @Says(promise = 30, text = "for each v: what is gone (dropped, of those sent away, loosed) is not in it")
    static void digestOfWhatIsThere() {
        TiedThrees x = FULL.one();
        x.places(4);
        x.clear();
        for (int set = 1; set <= 7; set++) {
            x.gain(set, 0);
        }
        x.fair(0);
        C.due("digest()", x.digest(), new TiedThrees().digest());
        x.person(2, 3);
        x.errand(0, 1, 2);
        x.errand(0, 3, 4);
        x.drop(0);
        C.due("digest()", x.digest(), digestOf(List.of(4, 1, 1, 0, 0, 0, 2, 3, 1, 1, 2, 0, 0, 0, 0, 0, 0, 0, 0, 1)));
    }
}
