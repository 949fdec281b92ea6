import java.math.BigInteger;
import java.util.ArrayList;
import java.util.Arrays;
import java.util.HashMap;
import java.util.List;
import java.util.Map;
import java.util.TreeSet;
import java.util.regex.Matcher;
import java.util.regex.Pattern;

/**
 * The document written a second time, by other ways than the program's: lists, maps, recursion over
 * all that can be done. ModelTest compares both.
 */
final class Model {
    static final int NONE = -1, BAD = -2, NO = -3, FULL = -4;

    record Errand(int place, int hour) { }

    record Human(int kind, int pace, List<Errand> errands) {
        Human copy() {
            return new Human(kind, pace, new ArrayList<>(errands));
        }
    }

    record Sight(int person, int place, int hour) { }

    record End(int one, int two, int turn) { }

    /** All that an IMAGE keeps. */
    static final class Kept {
        int places = 4;
        List<Human> people = new ArrayList<>();
        int[] gains = new int[8];
        List<int[]> weeks = new ArrayList<>();
        List<Sight> sights = new ArrayList<>();

        Kept copy() {
            Kept k = new Kept();
            k.places = places;
            people.forEach(p -> k.people.add(p.copy()));
            k.gains = gains.clone();
            k.weeks.addAll(weeks);
            k.sights.addAll(sights);
            return k;
        }
    }

    Kept now = new Kept();
    final Kept[] images = new Kept[2];
    final StringBuilder text = new StringBuilder();
    BigInteger above = BigInteger.ZERO;
    BigInteger below = BigInteger.ONE;
    final int[] refused = new int[3];

    private int refuse(int what, int answer) {
        refused[what]++;
        return answer;
    }

    private static boolean in(int v, int least, int greatest) {
        return least <= v && v <= greatest;
    }

    private boolean one(int p) {
        return in(p, 0, now.people.size() - 1);
    }

    private static List<Integer> bits(int set) {
        List<Integer> list = new ArrayList<>();
        for (int i = 0; i < 31; i++) {
            if ((set & (1 << i)) != 0) {
                list.add(i);
            }
        }
        return list;
    }

    private boolean three(int set) {
        return set > 0 && bits(set).size() == 3 && one(bits(set).get(2));
    }

    int places(int n) {
        if (!in(n, 1, 6)) {
            return refuse(0, BAD);
        }
        int old = now.places;
        now.places = n;
        now.people.clear();
        now.weeks.clear();
        now.sights.clear();
        return old;
    }

    int person(int kind, int pace) {
        if (!in(kind, 0, 4) || !in(pace, 1, 9)) {
            return refuse(0, BAD);
        }
        if (now.people.size() == 9) {
            return refuse(2, FULL);
        }
        now.people.add(new Human(kind, pace, new ArrayList<>()));
        return now.people.size() - 1;
    }

    int errand(int person, int place, int hour) {
        if (!one(person) || !in(place, 0, now.places - 1) || !in(hour, 0, 9)) {
            return refuse(0, BAD);
        }
        List<Errand> his = now.people.get(person).errands();
        if (his.size() == 4) {
            return refuse(2, FULL);
        }
        his.add(new Errand(place, hour));
        return his.size() - 1;
    }

    int drop(int person) {
        if (!one(person)) {
            return refuse(0, BAD);
        }
        List<Errand> his = now.people.get(person).errands();
        if (his.isEmpty()) {
            return refuse(1, NO);
        }
        his.remove(his.size() - 1);
        return his.size();
    }

    int type(long v, int n) {
        if (!in(n, 1, 8)) {
            return refuse(0, BAD);
        }
        if (text.length() + n > 250) {
            return refuse(2, FULL);
        }
        byte[] eight = java.nio.ByteBuffer.allocate(8).putLong(v).array();
        for (int i = 8 - n; i < 8; i++) {
            text.append((char) Byte.toUnsignedInt(eight[i]));
        }
        return text.length();
    }

    int clear() {
        int old = text.length();
        text.setLength(0);
        return old;
    }

    // ---- THE TOWN

    private static final class Fault extends Exception {
        private static final long serialVersionUID = 1;
        final int place;

        Fault(int place) {
            this.place = place;
        }
    }

    /** TOKENS cut by a pattern; what fits none is a token of one sign that can stand nowhere. */
    private final class Tokens {
        final List<String> texts = new ArrayList<>();
        final List<Integer> starts = new ArrayList<>();
        int next;

        Tokens() {
            Matcher m = Pattern.compile("[a-z]+|[0-9]+|;| +|[\\s\\S]").matcher(text);
            while (m.find()) {
                if (!m.group().startsWith(" ")) {
                    texts.add(m.group());
                    starts.add(m.start());
                }
            }
        }

        boolean atEnd() {
            return next == texts.size();
        }

        int place() {
            return atEnd() ? text.length() : starts.get(next);
        }

        int number(int least, int greatest) throws Fault {
            if (atEnd() || !texts.get(next).matches("[0-9]") || !in(Integer.parseInt(texts.get(next)), least, greatest)) {
                throw new Fault(place());
            }
            next++;
            return Integer.parseInt(texts.get(next - 1));
        }

        void end() throws Fault {
            if (atEnd() || !texts.get(next).equals(";")) {
                throw new Fault(place());
            }
            next++;
        }
    }

    private int items(Kept town) throws Fault {
        Tokens tokens = new Tokens();
        int items = 0;
        boolean errandTold = false;
        while (!tokens.atEnd()) {
            int place = tokens.place();
            String word = tokens.texts.get(tokens.next++);
            if (word.equals("places") && !errandTold) {
                town.places = tokens.number(1, 6);
            } else if (word.equals("person") && town.people.size() < 9) {
                town.people.add(new Human(tokens.number(0, 4), tokens.number(1, 9), new ArrayList<>()));
            } else if (word.equals("errand")) {
                errandTold = true;
                int at = tokens.place();
                List<Errand> his = town.people.isEmpty() ? null : town.people.get(tokens.number(0, town.people.size() - 1)).errands();
                if (his == null || his.size() == 4) {
                    throw new Fault(at);
                }
                his.add(new Errand(tokens.number(0, town.places - 1), tokens.number(0, 9)));
            } else {
                throw new Fault(place);
            }
            tokens.end();
            items++;
        }
        return items;
    }

    int read() {
        Kept town = new Kept();
        try {
            int items = items(town);
            town.gains = now.gains;
            now = town;
            return items;
        } catch (Fault fault) {
            return -10 - fault.place;
        }
    }

    // ---- days

    private final class Walk {
        final List<Integer> three;
        final boolean[][] done = new boolean[9][4];
        final int[] where = new int[10];
        int at;
        int hour;
        int many;

        Walk(int set) {
            three = bits(set);
            for (hour = 0; hour < 10; hour++) {
                go();
                for (int p : three) {
                    List<Errand> his = now.people.get(p).errands();
                    for (int e = 0; e < his.size(); e++) {
                        if (his.get(e).place() == at && open(p, e)) {
                            done[p][e] = true;
                            many++;
                        }
                    }
                }
                where[hour] = at;
            }
        }

        boolean open(int p, int e) {
            return !done[p][e] && now.people.get(p).errands().get(e).hour() >= hour;
        }

        List<Errand> openOf(int p) {
            List<Errand> list = new ArrayList<>();
            for (int e = 0; e < now.people.get(p).errands().size(); e++) {
                if (open(p, e)) {
                    list.add(now.people.get(p).errands().get(e));
                }
            }
            return list;
        }

        int asPerson(int p) {
            return openOf(p).isEmpty() ? at : openOf(p).get(0).place();
        }

        int asKind(int p) {
            if (!openOf(p).isEmpty()) {
                return asPerson(p);
            }
            return asPerson(three.stream().filter(q -> q != p).min(Integer::compare).get());
        }

        int vote(int p) {
            Human human = now.people.get(p);
            switch (human.kind()) {
                case 1:
                    return openOf(p).stream().min((a, b) -> a.hour() - b.hour()).map(Errand::place).orElse(at);
                case 2:
                    return human.errands().isEmpty() || done[p][0] ? asPerson(p) : human.errands().get(0).place();
                case 3:
                    return asKind(p);
                case 4:
                    return hour % 2 == 0 ? at : asKind(p);
                default:
                    return asPerson(p);
            }
        }

        void go() {
            int[] votes = new int[6];
            three.forEach(p -> votes[vote(p)]++);
            int target = vote(three.get(0));
            for (int place = 0; place < 6; place++) {
                if (votes[place] >= 2) {
                    target = place;
                }
            }
            int steps = three.stream().allMatch(p -> now.people.get(p).pace() >= 5) ? 2 : 1;
            for (int step = 0; step < steps && at != target; step++) {
                at = (at + (away(at, target, 1) <= away(at, target, -1) ? 1 : now.places - 1)) % now.places;
            }
        }

        int away(int from, int to, int way) {
            int steps = 0;
            for (int place = from; place != to; place = (place + way + now.places) % now.places) {
                steps++;
            }
            return steps;
        }
    }

    int day(int three, int hour) {
        if (!three(three) || !in(hour, -1, 9)) {
            return refuse(0, -10);
        }
        Walk walk = new Walk(three);
        return hour == NONE ? walk.many : walk.where[hour];
    }

    /** The most from an HOUR on, by the very ERRANDS done (bits: 4 for each of the three). */
    private int bestFrom(List<Human> three, int steps, int hour, int at, int done, Map<Long, Integer> seen) {
        if (hour == 10) {
            return Integer.bitCount(done);
        }
        long key = (long) hour << 20 | at << 12 | done;
        Integer known = seen.get(key);
        if (known != null) {
            return known;
        }
        int most = 0;
        for (int step = -steps; step <= steps; step++) {
            int to = (at + step + 2 * now.places) % now.places;
            int then = done;
            for (int i = 0; i < 3; i++) {
                List<Errand> his = three.get(i).errands();
                for (int e = 0; e < his.size(); e++) {
                    if (his.get(e).place() == to && his.get(e).hour() >= hour) {
                        then |= 1 << (4 * i + e);
                    }
                }
            }
            most = Math.max(most, bestFrom(three, steps, hour + 1, to, then, seen));
        }
        seen.put(key, most);
        return most;
    }

    int best(int three) {
        if (!three(three)) {
            return refuse(0, BAD);
        }
        List<Human> humans = bits(three).stream().map(now.people::get).toList();
        int steps = humans.stream().allMatch(h -> h.pace() >= 5) ? 2 : 1;
        return bestFrom(humans, steps, 0, 0, 0, new HashMap<>());
    }

    // ---- threes for all

    private boolean inThrees() {
        return List.of(3, 6, 9).contains(now.people.size());
    }

    private static void splits(List<Integer> left, List<Integer> tied, List<List<Integer>> all) {
        if (left.isEmpty()) {
            all.add(new ArrayList<>(tied));
            return;
        }
        for (int i = 1; i < left.size(); i++) {
            for (int j = i + 1; j < left.size(); j++) {
                tied.add(1 << left.get(0) | 1 << left.get(i) | 1 << left.get(j));
                int three = tied.get(tied.size() - 1);
                splits(left.stream().filter(p -> (three >> p & 1) == 0).toList(), tied, all);
                tied.remove(tied.size() - 1);
            }
        }
    }

    private static List<List<Integer>> splits(int people) {
        List<List<Integer>> all = new ArrayList<>();
        splits(bits((1 << people) - 1), new ArrayList<>(), all);
        return all;
    }

    private static int of(List<Integer> split, int person) {
        return split.stream().filter(three -> (three >> person & 1) == 1).findFirst().get();
    }

    int most(int person) {
        if (person != NONE && !one(person)) {
            return refuse(0, -10);
        }
        if (!inThrees()) {
            return refuse(1, -20);
        }
        Map<Integer, Integer> done = new HashMap<>();
        List<Integer> most = null;
        int mostDone = -1;
        for (List<Integer> split : splits(now.people.size())) {
            int sum = split.stream().mapToInt(t -> done.computeIfAbsent(t, set -> new Walk(set).many)).sum();
            if (sum > mostDone || sum == mostDone && Arrays.compare(numbers(split), numbers(most)) < 0) {
                most = split;
                mostDone = sum;
            }
        }
        return person == NONE ? mostDone : of(most, person);
    }

    private static int[] numbers(List<Integer> list) {
        return list.stream().mapToInt(Integer::intValue).toArray();
    }

    int lot(int seed, int person) {
        if (!in(seed, 0, 999999) || !one(person)) {
            return refuse(0, BAD);
        }
        if (!inThrees()) {
            return refuse(1, NO);
        }
        BigInteger x = BigInteger.valueOf(seed);
        TreeSet<Integer> left = new TreeSet<>(bits((1 << now.people.size()) - 1));
        List<Integer> split = new ArrayList<>();
        while (!left.isEmpty()) {
            int three = 1 << left.pollFirst();
            for (int twice = 0; twice < 2; twice++) {
                x = x.multiply(BigInteger.valueOf(1103515245)).add(BigInteger.valueOf(12345)).mod(BigInteger.ONE.shiftLeft(31));
                int r = x.shiftRight(16).mod(BigInteger.valueOf(left.size())).intValue();
                int drawn = new ArrayList<>(left).get(r);
                left.remove(drawn);
                three |= 1 << drawn;
            }
            split.add(three);
        }
        return of(split, person);
    }

    private static final Map<Integer, Long> ROWS = new HashMap<>();

    private static boolean apart(List<Integer> a, List<Integer> b) {
        return a.stream().allMatch(s -> b.stream().allMatch(t -> Integer.bitCount(s & t) < 2));
    }

    private static long rowsFrom(List<List<Integer>> all, List<List<Integer>> chosen, int left) {
        if (left == 0) {
            return 1;
        }
        long rows = 0;
        for (List<Integer> next : all) {
            if (chosen.stream().allMatch(c -> apart(c, next))) {
                chosen.add(next);
                rows += rowsFrom(all, chosen, left - 1);
                chosen.remove(chosen.size() - 1);
            }
        }
        return rows;
    }

    long rows(int w) {
        if (!in(w, 1, 4)) {
            return refuse(0, BAD);
        }
        if (!inThrees()) {
            return refuse(1, NO);
        }
        int people = now.people.size();
        return ROWS.computeIfAbsent(people * 10 + w, k -> rowsFrom(splits(people), new ArrayList<>(), w));
    }

    // ---- gains

    int gain(int set, int v) {
        if (!in(set, 1, 7) || !in(v, 0, 99)) {
            return refuse(0, BAD);
        }
        int old = now.gains[set];
        now.gains[set] = v;
        return old;
    }

    int leaves(int x, int y, int z) {
        int[] share = {x, y, z};
        if (!Arrays.stream(share).allMatch(s -> in(s, 0, 99))) {
            return refuse(0, BAD);
        }
        if (x + y + z != now.gains[7]) {
            return 7;
        }
        for (int set = 1; set <= 6; set++) {
            if (bits(set).stream().mapToInt(i -> share[i]).sum() < now.gains[set]) {
                return set;
            }
        }
        return NONE;
    }

    int fair(int partner) {
        if (!in(partner, 0, 2)) {
            return refuse(0, BAD);
        }
        int sum = 0;
        int[][] orders = {{0, 1, 2}, {0, 2, 1}, {1, 0, 2}, {1, 2, 0}, {2, 0, 1}, {2, 1, 0}};
        for (int[] order : orders) {
            int there = 0;
            for (int p : order) {
                if (p == partner) {
                    sum += now.gains[there | 1 << p] - now.gains[there];
                }
                there |= 1 << p;
            }
        }
        BigInteger divisor = BigInteger.valueOf(sum).gcd(BigInteger.valueOf(6));
        above = BigInteger.valueOf(sum).divide(divisor);
        below = BigInteger.valueOf(6).divide(divisor);
        return 1;
    }

    // ---- secrets, ropes

    int week(int a, int b, int c) {
        List<Integer> all = new ArrayList<>();
        for (int set : new int[] {a, b, c}) {
            if (set != 0 && !three(set)) {
                return refuse(0, BAD);
            }
            all.addAll(bits(set));
        }
        if (new TreeSet<>(all).size() != all.size()) {
            return refuse(0, BAD);
        }
        if (now.weeks.size() == 6) {
            return refuse(2, FULL);
        }
        now.weeks.add(new int[] {a, b, c});
        return now.weeks.size() - 1;
    }

    int loose() {
        int old = now.weeks.size();
        now.weeks.clear();
        return old;
    }

    private TreeSet<Integer> knowing(int first, int k) {
        TreeSet<Integer> know = new TreeSet<>(bits(first));
        for (int[] week : now.weeks.subList(0, k)) {
            TreeSet<Integer> then = new TreeSet<>(know);
            for (int set : week) {
                if (bits(set).stream().anyMatch(know::contains)) {
                    then.addAll(bits(set));
                }
            }
            know = then;
        }
        return know;
    }

    int knows(int first, int k) {
        if (!in(first, 0, (1 << now.people.size()) - 1) || !in(k, 0, now.weeks.size())) {
            return refuse(0, BAD);
        }
        return knowing(first, k).stream().mapToInt(p -> 1 << p).sum();
    }

    int when(int first, int person) {
        if (!in(first, 0, (1 << now.people.size()) - 1) || !one(person)) {
            return refuse(0, BAD);
        }
        for (int k = 0; k <= now.weeks.size(); k++) {
            if (knowing(first, k).contains(person)) {
                return k;
            }
        }
        return NONE;
    }

    private static End ropeFrom(int one, int two, int turn) {
        boolean oneIsOn = turn % 2 == 0;
        int oneThen = one - (oneIsOn ? 1 : 2);
        int twoThen = two - (oneIsOn ? 2 : 1);
        End pulled = oneThen <= 0 || twoThen <= 0
            ? new End(Math.max(oneThen, 0), Math.max(twoThen, 0), turn)
            : ropeFrom(oneThen, twoThen, turn + 1);
        End letGo = oneIsOn ? new End(one - one / 2, two, turn) : new End(one, two - two / 2, turn);
        boolean pulls = oneIsOn ? pulled.one() >= letGo.one() : pulled.two() >= letGo.two();
        return pulls ? pulled : letGo;
    }

    int rope(int a, int b, int what) {
        if (!in(a, 1, 60) || !in(b, 1, 60) || !in(what, 0, 2)) {
            return refuse(0, BAD);
        }
        End end = ropeFrom(a, b, 0);
        return what == 0 ? end.one() : what == 1 ? end.two() : end.turn();
    }

    // ---- who was seen where

    int sight(int person, int place, int hour) {
        if (!one(person) || !in(place, 0, now.places - 1) || !in(hour, 0, 9)) {
            return refuse(0, BAD);
        }
        if (now.sights.size() == 5) {
            return refuse(2, FULL);
        }
        now.sights.add(new Sight(person, place, hour));
        return now.sights.size() - 1;
    }

    int blind() {
        int old = now.sights.size();
        now.sights.clear();
        return old;
    }

    int which(int person, int i) {
        if (!one(person) || i < -1) {
            return refuse(0, -10);
        }
        List<Integer> may = new ArrayList<>();
        for (int set = 0; set < 512; set++) {
            if (three(set) && bits(set).contains(person)) {
                Walk walk = new Walk(set);
                if (now.sights.stream().allMatch(s -> s.person() != person || walk.where[s.hour()] == s.place())) {
                    may.add(set);
                }
            }
        }
        return i == NONE ? may.size() : i < may.size() ? may.get(i) : -5;
    }

    // ---- what there is

    long part(int what) {
        if (!in(what, 0, 1)) {
            return refuse(0, -1000);
        }
        return (what == 0 ? above : below).longValueExact();
    }

    int image(int i) {
        if (!in(i, 0, 1)) {
            return refuse(0, BAD);
        }
        images[i] = now.copy();
        return 1;
    }

    int from(int i) {
        if (!in(i, 0, 1)) {
            return refuse(0, BAD);
        }
        if (images[i] == null) {
            return refuse(1, NO);
        }
        now = images[i].copy();
        return 1;
    }

    int status(int what) {
        return in(what, 0, 2) ? refused[what] : refuse(0, -1);
    }

    int count(int what) {
        if (!in(what, 0, 5)) {
            return refuse(0, BAD);
        }
        return counts().get(what);
    }

    private List<Integer> counts() {
        int errands = now.people.stream().mapToInt(p -> p.errands().size()).sum();
        return List.of(now.places, now.people.size(), errands, now.weeks.size(), now.sights.size(), text.length());
    }

    long digest() {
        List<Integer> v = new ArrayList<>(counts());
        for (Human human : now.people) {
            v.addAll(List.of(human.kind(), human.pace(), human.errands().size()));
            human.errands().forEach(e -> v.addAll(List.of(e.place(), e.hour())));
        }
        for (int set = 1; set <= 7; set++) {
            v.add(now.gains[set]);
        }
        now.weeks.forEach(week -> v.addAll(List.of(week[0], week[1], week[2])));
        now.sights.forEach(s -> v.addAll(List.of(s.person(), s.place(), s.hour())));
        v.add(above.intValueExact());
        v.add(below.intValueExact());
        BigInteger h = BigInteger.valueOf(769);
        for (int one : v) {
            h = h.multiply(BigInteger.valueOf(31)).add(BigInteger.valueOf(one));
        }
        return h.longValue();
    }
}
