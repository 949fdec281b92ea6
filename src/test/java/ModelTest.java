/** Long runs of calls, made by a fixed rule from a number, answered by the program and by the Model alike. */
public final class ModelTest {
    private static final int RUNS = 1500;
    private static final int CALLS = 512;

    private final Check check = new Check();
    private long state;
    private TiedThrees x;
    private Model m;

    public static void main(String[] args) {
        ModelTest test = new ModelTest();
        for (int run = 0; run < RUNS; run++) {
            test.run(run);
        }
        test.check.end("ModelTest");
    }

    private int draw(int n) {
        state = state * 6364136223846793005L + 1442695040888963407L;
        return (int) ((state >>> 33) % n);
    }

    private int from(int least, int greatest) {
        return least + draw(greatest - least + 1);
    }

    /** Mostly a number as told, at times one beside the edges or far away. */
    private int near(int least, int greatest) {
        if (draw(12) != 0) {
            return greatest < least ? least : from(least, greatest);
        }
        int[] wild = {least - 1, greatest + 1, least, greatest, -1, Integer.MAX_VALUE, Integer.MIN_VALUE};
        return wild[draw(wild.length)];
    }

    private int aThree() {
        int people = m.count(1);
        if (people < 3 || draw(15) == 0) {
            return draw(8) == 0 ? -7 : draw(1030);
        }
        int set = 0;
        while (Integer.bitCount(set) < 3) {
            set |= 1 << draw(people);
        }
        return set;
    }

    private void run(int run) {
        state = run * 7919L + 17;
        x = new TiedThrees();
        m = new Model();
        check.about("run " + run);
        int wish = from(0, 9);
        for (int i = 0; i < CALLS; i++) {
            call(wish);
        }
        due("digest()", x.digest(), m.digest());
        for (int what = 0; what < 3; what++) {
            due("status(" + what + ")", x.status(what), m.status(what));
        }
    }

    private void due(String call, long got, long want) {
        check.due(call, got, want);
    }

    private void call(int wish) {
        int people = m.count(1);
        if (people < wish && draw(4) == 0) {
            int kind = near(0, 4);
            int pace = near(1, 9);
            due("person(" + kind + ", " + pace + ")", x.person(kind, pace), m.person(kind, pace));
            return;
        }
        int group = draw(20);
        if (group < 7) {
            callTown(people);
        } else if (group < 13) {
            callDays(people);
        } else if (group < 16) {
            callGainsAndRopes();
        } else if (group < 18) {
            callSecrets(people);
        } else {
            callRest();
        }
    }

    private void callTown(int people) {
        int which = draw(60);
        if (which == 0) {
            int n = near(1, 6);
            due("places(" + n + ")", x.places(n), m.places(n));
        } else if (which == 1) {
            int kind = near(0, 4);
            int pace = near(1, 9);
            due("person(" + kind + ", " + pace + ")", x.person(kind, pace), m.person(kind, pace));
        } else if (which < 40) {
            int p = near(0, people - 1);
            int place = near(0, m.count(0) - 1);
            int hour = near(0, 9);
            due("errand(" + p + ", " + place + ", " + hour + ")", x.errand(p, place, hour), m.errand(p, place, hour));
        } else if (which < 50) {
            int p = near(0, people - 1);
            due("drop(" + p + ")", x.drop(p), m.drop(p));
        } else if (which < 54) {
            int n = near(1, 8);
            long v = state;
            due("type(" + v + ", " + n + ")", x.type(v, n), m.type(v, n));
        } else if (which < 56) {
            due("clear()", x.clear(), m.clear());
        } else {
            readText();
        }
    }

    private void readText() {
        if (draw(5) != 0) {
            due("clear()", x.clear(), m.clear());
        }
        String text = TownTexts.make(this::draw);
        for (int i = 0; i < text.length(); i += 8) {
            String part = text.substring(i, Math.min(text.length(), i + 8));
            long v = draw(2) == 0 ? -1 : 0;
            for (int j = 0; j < part.length(); j++) {
                v = v << 8 | part.charAt(j);
            }
            due("type of '" + part + "'", x.type(v, part.length()), m.type(v, part.length()));
        }
        due("read() of '" + text + "'", x.read(), m.read());
        due("digest() behind '" + text + "'", x.digest(), m.digest());
    }

    private void callDays(int people) {
        int which = draw(12);
        int set = aThree();
        if (which < 4) {
            int hour = near(-1, 9);
            due("day(" + set + ", " + hour + ")", x.day(set, hour), m.day(set, hour));
        } else if (which < 6) {
            due("best(" + set + ")", x.best(set), m.best(set));
        } else if (which < 7) {
            int p = near(-1, people - 1);
            due("most(" + p + ")", x.most(p), m.most(p));
        } else if (which < 8) {
            int seed = near(0, 999999);
            int p = near(0, people - 1);
            due("lot(" + seed + ", " + p + ")", x.lot(seed, p), m.lot(seed, p));
        } else if (which < 9) {
            int w = near(1, 4);
            due("rows(" + w + ")", x.rows(w), m.rows(w));
        } else if (which < 11) {
            int p = near(0, people - 1);
            int i = near(-1, 28);
            due("which(" + p + ", " + i + ")", x.which(p, i), m.which(p, i));
        } else {
            int p = near(0, people - 1);
            int place = near(0, m.count(0) - 1);
            int hour = near(0, 9);
            due("sight(" + p + ", " + place + ", " + hour + ")", x.sight(p, place, hour), m.sight(p, place, hour));
        }
    }

    private void callGainsAndRopes() {
        int which = draw(10);
        if (which < 4) {
            int set = near(1, 7);
            int v = near(0, 99);
            due("gain(" + set + ", " + v + ")", x.gain(set, v), m.gain(set, v));
        } else if (which < 6) {
            callLeaves();
        } else if (which < 8) {
            int partner = near(0, 2);
            due("fair(" + partner + ")", x.fair(partner), m.fair(partner));
            due("part(0)", x.part(0), m.part(0));
            due("part(1)", x.part(1), m.part(1));
        } else {
            int a = near(1, 60);
            int b = near(1, 60);
            int what = near(0, 2);
            due("rope(" + a + ", " + b + ", " + what + ")", x.rope(a, b, what), m.rope(a, b, what));
        }
    }

    private void callLeaves() {
        int y = near(0, 50);
        int z = near(0, 50);
        int rest = m.now.gains[7] - y - z;
        int v = draw(3) == 0 || rest < 0 || rest > 99 ? near(0, 99) : rest;
        due("leaves(" + v + ", " + y + ", " + z + ")", x.leaves(v, y, z), m.leaves(v, y, z));
    }

    private void callSecrets(int people) {
        int first = near(0, (1 << people) - 1);
        int which = draw(20);
        if (which < 7) {
            int a = draw(4) == 0 ? 0 : aThree();
            int b = draw(4) == 0 ? 0 : aThree();
            int c = draw(2) == 0 ? 0 : aThree();
            due("week(" + a + ", " + b + ", " + c + ")", x.week(a, b, c), m.week(a, b, c));
        } else if (which < 8) {
            due("loose()", x.loose(), m.loose());
        } else if (which < 14) {
            int k = near(0, m.count(3));
            due("knows(" + first + ", " + k + ")", x.knows(first, k), m.knows(first, k));
        } else {
            int p = near(0, people - 1);
            due("when(" + first + ", " + p + ")", x.when(first, p), m.when(first, p));
        }
    }

    private void callRest() {
        int which = draw(9);
        int v = near(0, 1);
        if (which < 2) {
            due("blind()", x.blind(), m.blind());
        } else if (which < 3) {
            due("part(" + v + ")", x.part(v), m.part(v));
        } else if (which < 4) {
            due("image(" + v + ")", x.image(v), m.image(v));
        } else if (which < 5) {
            due("from(" + v + ")", x.from(v), m.from(v));
        } else if (which < 6) {
            int what = near(0, 2);
            due("status(" + what + ")", x.status(what), m.status(what));
        } else if (which < 8) {
            int what = near(0, 5);
            due("count(" + what + ")", x.count(what), m.count(what));
        } else {
            due("digest()", x.digest(), m.digest());
        }
    }
}
