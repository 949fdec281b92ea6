import java.util.LinkedHashMap;
import java.util.Map;

/**
 * "Nothing is promised beyond the answers and state changes described": each call, from nothing, little, much
 * and all that there is room for, must leave what the Model has then, in all that can be seen.
 */
public final class EveryCallTest {
    /** Calls that bring a new pair where a test begins. */
    private interface State {
        void on(Pair p);
    }

    private static final Check C = new Check();
    private static final int NONE = TiedThrees.NONE;
    private static final int[] ONE = {7, 0, 0}, TWO = {7, 56, 0}, THREE = {7, 56, 448};
    private static final Map<String, State> STATES = new LinkedHashMap<>();

    static {
        STATES.put("a new object", p -> { });
        STATES.put("a little of all", EveryCallTest::little);
        STATES.put("much of all", EveryCallTest::much);
        STATES.put("all that there is room for", EveryCallTest::full);
    }

    public static void main(String[] args) {
        Sentences.run(EveryCallTest.class, C, 1, 30);
    }

    // ---- states in which any two things of a kind differ, and none is as at first

    private static void little(Pair p) {
        things(p, 3, 3, 5, 10);
        kept(p, ONE, 1, 1);
        p.type("places 2;person 4 9;");
    }

    private static void much(Pair p) {
        refusals(p);
        images(p);
        things(p, 6, 9, 29, 20);
        kept(p, THREE, 4, 3);
        p.type("places 5;person 3 7;person 1 2;errand 1 4 6;");
    }

    private static void full(Pair p) {
        refusals(p);
        images(p);
        things(p, 6, 9, 36, 30);
        kept(p, THREE, 6, 5);
        p.type(Towns.LONGEST);
    }

    /** Three are refused as BAD, two as NO, one as FULL. */
    private static void refusals(Pair p) {
        for (int i = 0; i < 3; i++) {
            p.call("person", 5, 1);
        }
        p.call("from", 0);
        p.call("from", 1);
        for (int i = 0; i < 7; i++) {
            p.call("week", 0, 0, 0);
        }
        p.call("loose");
    }

    private static void images(Pair p) {
        things(p, 2, 4, 6, 5);
        kept(p, ONE, 2, 2);
        p.call("image", 0);
        things(p, 5, 6, 9, 15);
        kept(p, TWO, 1, 4);
        p.call("image", 1);
    }

    private static void things(Pair p, int places, int people, int errands, int gain) {
        p.call("places", places);
        for (int i = 0; i < people; i++) {
            p.call("person", 1 + i % 4, 2 + i % 8);
        }
        for (int e = 0; e < errands; e++) {
            p.call("errand", e % people, 1 + (e + e / people) % (places - 1), 9 - e % 9);
        }
        for (int set = 1; set <= 7; set++) {
            // sets of two and of three gain so much more that shares can be told which none would leave
            p.call("gain", set, gain + set + (set == 7 ? 60 : set % 3 == 0 || set == 5 ? 10 : 0));
        }
        p.call("fair", 1);
    }

    private static void kept(Pair p, int[] threes, int weeks, int sights) {
        for (int w = 0; w < weeks; w++) {
            p.call("week", threes[w % 3], threes[(w + 1) % 3], threes[(w + 2) % 3]);
        }
        for (int i = 0; i < sights; i++) {
            p.call("sight", i % 3, 1, 1 + i);
        }
    }

    /** The call, once and twice, from each of the states, by each row of numbers. */
    private static void each(String name, long[]... rows) {
        STATES.forEach((told, state) -> {
            for (long[] row : rows) {
                for (int times = 1; times <= 2; times++) {
                    Pair p = new Pair(C, told);
                    state.on(p);
                    p.behind(times + " times " + name);
                    for (int i = 0; i < times; i++) {
                        p.call(name, row);
                    }
                    p.lookAtAll();
                }
            }
        });
    }

    private static long[] row(long... numbers) {
        return numbers;
    }

    // ---- each promise

    @Says(promise = 1, text = "As told; nobody; and nothing else")
    static void made() {
        STATES.forEach((told, state) -> {
            Pair p = new Pair(C, told);
            state.on(p);
            p.lookAtAll();
        });
    }

    @Says(promise = 2, text = "n PLACES, nobody, no WEEKS, SIGHTS (GAINS stay): and nothing else")
    static void places() {
        each("places", row(1), row(4), row(6), row(0), row(7));
    }

    @Says(promise = 3, text = "One of PEOPLE, and nothing else")
    static void person() {
        each("person", row(0, 1), row(4, 9), row(5, 1), row(0, 10));
    }

    @Says(promise = 4, text = "An ERRAND of one, and nothing else")
    static void errand() {
        each("errand", row(0, 0, 0), row(2, 2, 9), row(8, 5, 5), row(9, 0, 0), row(0, 6, 0), row(0, 0, 10));
    }

    @Says(promise = 5, text = "The last ERRAND of one goes, and nothing else")
    static void drop() {
        each("drop", row(0), row(1), row(2), row(8), row(9));
    }

    @Says(promise = 6, text = "bytes come to THE TEXT, and nothing else")
    static void type() {
        each("type", row(';', 1), row(-1, 8), row(' ', 1), row(0x706c6163, 4), row(0, 0), row(0, 9));
    }

    @Says(promise = 7, text = "THE TEXT is empty, and nothing else")
    static void clear() {
        each("clear", row());
    }

    @Says(promise = 8, text = "THE TOWN is read (THE TEXT stays as it is), and nothing else; a FAULT: all stays")
    static void read() {
        each("read", row());
        String[] texts = {";", "places 3", "errand 0 0 0;", "person 1 1;places 4;", "person 2 2;errand 0 1 1;places 2;",
            "person 1 2;errand 0 1 9;errand 0 2 8;errand 0 3 7;errand 0 1 6;", "places 6;" + "person 4 9;".repeat(9)};
        STATES.forEach((told, state) -> {
            for (String text : texts) {
                Pair p = new Pair(C, told);
                state.on(p);
                p.call("clear");
                p.type(text);
                p.behind("read of '" + text + "'");
                p.call("read");
                p.lookAtAll();
            }
        });
    }

    @Says(promise = 9, text = "DAY of a THREE: changes nothing")
    static void day() {
        each("day", row(7, NONE), row(7, 0), row(7, 9), row(448, 3), row(8, 0), row(7, 10));
    }

    @Says(promise = 10, text = "BEST of a THREE: changes nothing")
    static void best() {
        each("best", row(7), row(448), row(3));
    }

    @Says(promise = 11, text = "MOST: changes nothing")
    static void most() {
        each("most", row(NONE), row(0), row(2), row(8), row(9));
    }

    @Says(promise = 12, text = "LOT: changes nothing")
    static void lot() {
        each("lot", row(0, 0), row(999999, 2), row(5, 8), row(1000000, 0), row(5, 9));
    }

    @Says(promise = 13, text = "ROWS of w WEEKS: changes nothing")
    static void rows() {
        each("rows", row(1), row(2), row(4), row(5));
    }

    @Says(promise = 14, text = "GAIN of a set of partners, and nothing else")
    static void gain() {
        each("gain", row(1, 0), row(3, 50), row(7, 99), row(0, 0), row(8, 1), row(1, 100));
    }

    @Says(promise = 15, text = "LEAVES: changes nothing")
    static void leaves() {
        each("leaves", row(0, 0, 0), row(25, 26, 26), row(29, 29, 29), row(31, 32, 34), row(77, 0, 0), row(0, 87, 0), row(100, 0, 0));
    }

    @Says(promise = 16, text = "FAIR of a partner is THE FRACTION, and nothing else")
    static void fair() {
        each("fair", row(0), row(1), row(2), row(3), row(-1));
    }

    @Says(promise = 17, text = "A WEEK, and nothing else")
    static void week() {
        each("week", row(7, 0, 0), row(0, 0, 0), row(7, 56, 448), row(7, 7, 0), row(3, 0, 0));
    }

    @Says(promise = 18, text = "No WEEKS, and nothing else")
    static void loose() {
        each("loose", row());
    }

    @Says(promise = 19, text = "KNOWS: changes nothing")
    static void knows() {
        each("knows", row(1, 0), row(1, 1), row(2, 3), row(511, 0), row(1, 7));
    }

    @Says(promise = 20, text = "WHEN: changes nothing")
    static void when() {
        each("when", row(1, 0), row(1, 2), row(4, 8), row(0, 0), row(512, 0));
    }

    @Says(promise = 21, text = "ROPE: changes nothing")
    static void rope() {
        each("rope", row(10, 20, 0), row(5, 5, 1), row(60, 60, 2), row(0, 1, 0));
    }

    @Says(promise = 22, text = "A SIGHT, and nothing else")
    static void sight() {
        each("sight", row(0, 0, 0), row(2, 2, 9), row(8, 5, 4), row(9, 0, 0), row(0, 6, 0));
    }

    @Says(promise = 23, text = "No SIGHTS, and nothing else")
    static void blind() {
        each("blind", row());
    }

    @Says(promise = 24, text = "WHICH THREES of one: changes nothing")
    static void which() {
        each("which", row(0, NONE), row(0, 0), row(2, 27), row(8, 5), row(0, -2), row(9, 0));
    }

    @Says(promise = 25, text = "THE FRACTION: asking changes nothing")
    static void part() {
        each("part", row(0), row(1), row(2));
    }

    @Says(promise = 26, text = "An IMAGE is kept, and nothing else changes")
    static void image() {
        each("image", row(0), row(1), row(2));
    }

    @Says(promise = 27, text = "It goes on from an IMAGE, and nothing else changes")
    static void from() {
        each("from", row(0), row(1), row(2));
    }

    @Says(promise = 28, text = "STATUS: asking changes nothing (another what counts as BAD)")
    static void status() {
        each("status", row(0), row(1), row(2), row(3));
    }

    @Says(promise = 29, text = "How many: asking changes nothing")
    static void count() {
        each("count", row(0), row(1), row(2), row(3), row(4), row(5), row(6));
    }

    @Says(promise = 30, text = "digest: asking changes nothing")
    static void digest() {
        each("digest", row());
    }
}
