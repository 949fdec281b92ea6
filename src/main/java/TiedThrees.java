import java.util.Arrays;

/**
 * People of kinds, tied by the ankles in threes: their days, threes for all, shares of a gain,
 * secrets, a rope, sights, and a town told by a text. Words in capitals are the document's.
 */
public final class TiedThrees {
    public static final int NONE = -1, BAD = -2, NO = -3, FULL = -4;

    private static final int MOST_PLACES = 6;
    private static final int FIRST_PLACES = 4;
    private static final int MOST_PEOPLE = 9;
    private static final int MOST_THREES = 3;
    private static final int MOST_ERRANDS = 4;
    private static final int KINDS = 5;
    private static final int MOST_PACE = 9;
    private static final int QUICK_PACE = 5;
    private static final int HOURS = 10;
    private static final int MOST_WEEKS = 6;
    private static final int MOST_SIGHTS = 5;
    private static final int MOST_ROWS = 4;
    private static final int MOST_GAIN = 99;
    private static final int PARTNERS = 3;
    private static final int ALL_PARTNERS = 7;
    private static final int MOST_STRENGTH = 60;
    private static final int MOST_SEED = 999999;
    private static final int MOST_TEXT = 250;
    private static final int IMAGES = 2;
    private static final int GROUPS = 512;

    private static final int NOT_SO_MANY = -5;
    private static final int BAD_DAY = -10;
    private static final int NO_MOST = -20;
    private static final int BAD_PART = -1000;
    private static final int FAULT_BASE = -10;

    private final Scene scene;
    private final Scene[] images = new Scene[IMAGES];
    private final boolean[] kept = new boolean[IMAGES];
    private final int[] text = new int[MOST_TEXT];
    private final TownReader reader = new TownReader();
    private final Day walked;
    private final FreeDay free;
    private final Splits splits = new Splits();
    private final int[] lots = new int[MOST_THREES];
    private int textLength;
    private int above;
    private int below = 1;
    private int bads;
    private int nos;
    private int fulls;

    public TiedThrees() {
        Town town = new Town();
        scene = new Scene(town);
        walked = new Day(town);
        free = new FreeDay(town);
        for (int i = 0; i < IMAGES; i++) {
            images[i] = new Scene(new Town());
        }
    }

    // ---- a town

    public int places(int n) {
        if (n < 1 || n > MOST_PLACES) {
            return refusedBad(BAD);
        }
        int old = scene.town.places;
        scene.town.startOver(n);
        scene.forgetWeeksAndSights();
        return old;
    }

    public int person(int kind, int pace) {
        if (!isKindAndPace(kind, pace)) {
            return refusedBad(BAD);
        }
        if (scene.town.people >= MOST_PEOPLE) {
            return refusedFull();
        }
        return scene.town.addPerson(kind, pace);
    }

    public int errand(int person, int place, int hour) {
        Town town = scene.town;
        if (!town.hasPerson(person) || !town.hasPlace(place) || !isHour(hour)) {
            return refusedBad(BAD);
        }
        if (town.errands[person] >= MOST_ERRANDS) {
            return refusedFull();
        }
        return town.addErrand(person, place, hour);
    }

    public int drop(int person) {
        Town town = scene.town;
        if (!town.hasPerson(person)) {
            return refusedBad(BAD);
        }
        if (town.errands[person] == 0) {
            return refusedNo(NO);
        }
        town.errands[person]--;
        return town.errands[person];
    }

    public int type(long v, int n) {
        if (n < 1 || n > 8) {
            return refusedBad(BAD);
        }
        if (textLength + n > MOST_TEXT) {
            return refusedFull();
        }
        for (int i = n - 1; i >= 0; i--) {
            text[textLength] = (int) (v >>> (8 * i)) & 255;
            textLength++;
        }
        return textLength;
    }

    public int clear() {
        int old = textLength;
        textLength = 0;
        return old;
    }

    public int read() {
        int answer = reader.readTown(text, textLength);
        if (answer >= 0) {
            scene.town.become(reader.town);
            scene.forgetWeeksAndSights();
        }
        return answer;
    }

    // ---- days

    public int day(int three, int hour) {
        if (!scene.town.isThree(three) || (hour != NONE && !isHour(hour))) {
            return refusedBad(BAD_DAY);
        }
        walked.pass(three);
        return hour == NONE ? walked.doneMany : walked.where[hour];
    }

    public int best(int three) {
        if (!scene.town.isThree(three)) {
            return refusedBad(BAD);
        }
        return free.mostDone(three);
    }

    public int most(int person) {
        if (person != NONE && !scene.town.hasPerson(person)) {
            return refusedBad(BAD_DAY);
        }
        if (!isAllInThrees()) {
            return refusedNo(NO_MOST);
        }
        splits.list(scene.town.people);
        walkAllThrees();
        int first = splits.firstOfMost();
        return person == NONE ? splits.doneBy(first) : splits.threeOf(first, person);
    }

    public int lot(int seed, int person) {
        if (seed < 0 || seed > MOST_SEED || !scene.town.hasPerson(person)) {
            return refusedBad(BAD);
        }
        if (!isAllInThrees()) {
            return refusedNo(NO);
        }
        drawLots(seed);
        return threeWith(person);
    }

    public long rows(int w) {
        if (w < 1 || w > MOST_ROWS) {
            return refusedBad(BAD);
        }
        if (!isAllInThrees()) {
            return refusedNo(NO);
        }
        splits.list(scene.town.people);
        return splits.rowsOf(w);
    }

    // ---- gains

    public int gain(int set, int v) {
        if (set < 1 || set > ALL_PARTNERS || !isAmount(v)) {
            return refusedBad(BAD);
        }
        int old = scene.gains[set];
        scene.gains[set] = v;
        return old;
    }

    public int leaves(int x, int y, int z) {
        if (!isAmount(x) || !isAmount(y) || !isAmount(z)) {
            return refusedBad(BAD);
        }
        if (x + y + z != scene.gains[ALL_PARTNERS]) {
            return ALL_PARTNERS;
        }
        for (int set = 1; set < ALL_PARTNERS; set++) {
            int shares = (set & 1) * x + (set >> 1 & 1) * y + (set >> 2 & 1) * z;
            if (shares < scene.gains[set]) {
                return set;
            }
        }
        return NONE;
    }

    public int fair(int partner) {
        if (partner < 0 || partner >= PARTNERS) {
            return refusedBad(BAD);
        }
        int[] gains = scene.gains;
        int me = 1 << partner;
        int left = partner == 0 ? 2 : 1;
        int right = ALL_PARTNERS - me - left;
        int alone = gains[me];
        int second = gains[me | left] - gains[left] + gains[me | right] - gains[right];
        int third = gains[ALL_PARTNERS] - gains[left | right];
        // of the six orders he comes first in two, behind each of the others in one, last in two
        keepSixths(2 * alone + second + 2 * third);
        return 1;
    }

    // ---- secrets, ropes

    public int week(int a, int b, int c) {
        Town town = scene.town;
        if (!town.isThreeOrNone(a) || !town.isThreeOrNone(b) || !town.isThreeOrNone(c)) {
            return refusedBad(BAD);
        }
        if ((a & b) != 0 || (a & c) != 0 || (b & c) != 0) {
            return refusedBad(BAD);
        }
        if (scene.weeks >= MOST_WEEKS) {
            return refusedFull();
        }
        return scene.addWeek(a, b, c);
    }

    public int loose() {
        int old = scene.weeks;
        scene.weeks = 0;
        return old;
    }

    public int knows(int first, int k) {
        if (!scene.town.isGroup(first) || k < 0 || k > scene.weeks) {
            return refusedBad(BAD);
        }
        int knowing = first;
        for (int i = 0; i < k; i++) {
            knowing = scene.toldInWeek(i, knowing);
        }
        return knowing;
    }

    public int when(int first, int person) {
        if (!scene.town.isGroup(first) || !scene.town.hasPerson(person)) {
            return refusedBad(BAD);
        }
        int knowing = first;
        for (int i = 0; i < scene.weeks; i++) {
            if (isIn(knowing, person)) {
                return i;
            }
            knowing = scene.toldInWeek(i, knowing);
        }
        return isIn(knowing, person) ? scene.weeks : NONE;
    }

    public int rope(int a, int b, int what) {
        if (!isStrength(a) || !isStrength(b) || what < 0 || what > 2) {
            return refusedBad(BAD);
        }
        return ropeEnd(a, b, what);
    }

    // ---- who was seen where

    public int sight(int person, int place, int hour) {
        Town town = scene.town;
        if (!town.hasPerson(person) || !town.hasPlace(place) || !isHour(hour)) {
            return refusedBad(BAD);
        }
        if (scene.sights >= MOST_SIGHTS) {
            return refusedFull();
        }
        return scene.addSight(person, place, hour);
    }

    public int blind() {
        int old = scene.sights;
        scene.sights = 0;
        return old;
    }

    public int which(int person, int i) {
        if (!scene.town.hasPerson(person) || i < NONE) {
            return refusedBad(BAD_DAY);
        }
        int found = 0;
        for (int three : splits.threes) {
            if (isIn(three, person) && scene.town.isThree(three) && mayHaveBeen(three, person)) {
                if (found == i) {
                    return three;
                }
                found++;
            }
        }
        return i == NONE ? found : NOT_SO_MANY;
    }

    // ---- what there is

    public long part(int what) {
        if (what < 0 || what > 1) {
            return refusedBad(BAD_PART);
        }
        return what == 0 ? above : below;
    }

    public int image(int i) {
        if (!isImage(i)) {
            return refusedBad(BAD);
        }
        images[i].become(scene);
        kept[i] = true;
        return 1;
    }

    public int from(int i) {
        if (!isImage(i)) {
            return refusedBad(BAD);
        }
        if (!kept[i]) {
            return refusedNo(NO);
        }
        scene.become(images[i]);
        return 1;
    }

    public int status(int what) {
        switch (what) {
            case 0:
                return bads;
            case 1:
                return nos;
            case 2:
                return fulls;
            default:
                return refusedBad(NONE);
        }
    }

    public int count(int what) {
        return what < 0 || what > 5 ? refusedBad(BAD) : howMany(what);
    }

    public long digest() {
        long h = 769;
        for (int what = 0; what <= 5; what++) {
            h = 31 * h + howMany(what);
        }
        h = scene.digested(h);
        h = 31 * h + above;
        return 31 * h + below;
    }

    // ---- what is refused

    private int refusedBad(int answer) {
        bads++;
        return answer;
    }

    private int refusedNo(int answer) {
        nos++;
        return answer;
    }

    private int refusedFull() {
        fulls++;
        return FULL;
    }

    private static boolean isKindAndPace(int kind, int pace) {
        return kind >= 0 && kind < KINDS && pace >= 1 && pace <= MOST_PACE;
    }

    private static boolean isHour(int hour) {
        return hour >= 0 && hour < HOURS;
    }

    private static boolean isAmount(int v) {
        return v >= 0 && v <= MOST_GAIN;
    }

    private static boolean isStrength(int v) {
        return v >= 1 && v <= MOST_STRENGTH;
    }

    private static boolean isImage(int i) {
        return i >= 0 && i < IMAGES;
    }

    private static boolean isIn(int set, int person) {
        return (set >> person & 1) == 1;
    }

    private boolean isAllInThrees() {
        int people = scene.town.people;
        return people == 3 || people == 6 || people == 9;
    }

    // ---- parts of single calls

    private void walkAllThrees() {
        for (int three : splits.threes) {
            if (scene.town.isThree(three)) {
                walked.pass(three);
                splits.done[three] = walked.doneMany;
            }
        }
    }

    private void drawLots(long seed) {
        long x = seed;
        int left = (1 << scene.town.people) - 1;
        for (int i = 0; i < MOST_THREES; i++) {
            int three = left & -left;
            left &= ~three;
            for (int draw = 0; draw < 2; draw++) {
                x = (x * 1103515245L + 12345L) % 2147483648L;
                int others = Integer.bitCount(left);
                int drawn = others == 0 ? 0 : nthOf(left, (int) (x / 65536 % others));
                three |= drawn;
                left &= ~drawn;
            }
            lots[i] = three;
        }
    }

    /** The bit of the n-th one in the set, rising; no bit if there are fewer. */
    private static int nthOf(int set, int n) {
        int at = 0;
        for (int person = 0; person < MOST_PEOPLE; person++) {
            if (isIn(set, person)) {
                if (at == n) {
                    return 1 << person;
                }
                at++;
            }
        }
        return 0;
    }

    private int threeWith(int person) {
        for (int three : lots) {
            if (isIn(three, person)) {
                return three;
            }
        }
        return 0;
    }

    /** Keeps so many sixths as THE FRACTION; 2 and 3 are all that can cancel. */
    private void keepSixths(int sixths) {
        above = sixths;
        below = 6;
        if (above % 2 == 0) {
            above /= 2;
            below /= 2;
        }
        if (above % 3 == 0) {
            above /= 3;
            below /= 3;
        }
    }

    /**
     * Letting go ends the game, so there is one line of pulls alone: it is walked to its end,
     * then back, and whoever is better off letting go at his turn does so.
     */
    private static int ropeEnd(int a, int b, int what) {
        int one = a;
        int two = b;
        int turn = 0;
        while (one > 0 && two > 0 && turn < 2 * MOST_STRENGTH) {
            one -= pullLoss(turn, 0);
            two -= pullLoss(turn, 1);
            turn++;
        }
        int endOne = Math.max(one, 0);
        int endTwo = Math.max(two, 0);
        int last = turn - 1;
        for (int t = turn - 1; t >= 0; t--) {
            one += pullLoss(t, 0);
            two += pullLoss(t, 1);
            if (t % 2 == 0 && one - one / 2 > endOne) {
                endOne = one - one / 2;
                endTwo = two;
                last = t;
            } else if (t % 2 == 1 && two - two / 2 > endTwo) {
                endOne = one;
                endTwo = two - two / 2;
                last = t;
            }
        }
        return what == 0 ? endOne : what == 1 ? endTwo : last;
    }

    private static int pullLoss(int turn, int side) {
        return turn % 2 == side ? 1 : 2;
    }

    private boolean mayHaveBeen(int three, int person) {
        walked.pass(three);
        for (int i = 0; i < scene.sights; i++) {
            int hour = scene.sightHour[i];
            if (scene.sightPerson[i] == person && walked.where[hour] != scene.sightPlace[i]) {
                return false;
            }
        }
        return true;
    }

    private int howMany(int what) {
        switch (what) {
            case 0:
                return scene.town.places;
            case 1:
                return scene.town.people;
            case 2:
                return scene.town.errandsOfAll();
            case 3:
                return scene.weeks;
            case 4:
                return scene.sights;
            default:
                return textLength;
        }
    }

    /** PLACES, PEOPLE and their ERRANDS; ERRAND e of person p stands at p times 4 and e. */
    private static final class Town {
        private final int[] kind = new int[MOST_PEOPLE];
        private final int[] pace = new int[MOST_PEOPLE];
        private final int[] errands = new int[MOST_PEOPLE];
        private final int[] place = new int[MOST_PEOPLE * MOST_ERRANDS];
        private final int[] hour = new int[MOST_PEOPLE * MOST_ERRANDS];
        private int places = FIRST_PLACES;
        private int people;

        private void startOver(int n) {
            places = n;
            people = 0;
        }

        private boolean hasPerson(int p) {
            return p >= 0 && p < people;
        }

        private boolean hasPlace(int at) {
            return at >= 0 && at < places;
        }

        private boolean isGroup(int set) {
            return set >= 0 && set < 1 << people;
        }

        private boolean isThree(int set) {
            return isGroup(set) && Integer.bitCount(set) == 3;
        }

        private boolean isThreeOrNone(int set) {
            return set == 0 || isThree(set);
        }

        private int addPerson(int itsKind, int itsPace) {
            if (people >= MOST_PEOPLE) {
                return NONE;
            }
            kind[people] = itsKind;
            pace[people] = itsPace;
            errands[people] = 0;
            people++;
            return people - 1;
        }

        private int addErrand(int p, int at, int by) {
            if (!hasPerson(p) || errands[p] >= MOST_ERRANDS) {
                return NONE;
            }
            int e = errands[p];
            place[p * MOST_ERRANDS + e] = at;
            hour[p * MOST_ERRANDS + e] = by;
            errands[p]++;
            return e;
        }

        private int errandsOfAll() {
            int sum = 0;
            for (int p = 0; p < people; p++) {
                sum += errands[p];
            }
            return sum;
        }

        private boolean isQuick(int three) {
            for (int p = 0; p < people; p++) {
                if (isIn(three, p) && pace[p] < QUICK_PACE) {
                    return false;
                }
            }
            return true;
        }

        /** The PLACE that a number, below 0 or beyond the last one, comes to along the ring. */
        private int onRing(int at) {
            return places < 1 ? 0 : Math.floorMod(at, places);
        }

        private void become(Town other) {
            places = other.places;
            people = other.people;
            System.arraycopy(other.kind, 0, kind, 0, MOST_PEOPLE);
            System.arraycopy(other.pace, 0, pace, 0, MOST_PEOPLE);
            System.arraycopy(other.errands, 0, errands, 0, MOST_PEOPLE);
            System.arraycopy(other.place, 0, place, 0, MOST_PEOPLE * MOST_ERRANDS);
            System.arraycopy(other.hour, 0, hour, 0, MOST_PEOPLE * MOST_ERRANDS);
        }

        private long digested(long start) {
            long h = start;
            for (int p = 0; p < people; p++) {
                h = 31 * h + kind[p];
                h = 31 * h + pace[p];
                h = 31 * h + errands[p];
                for (int e = 0; e < errands[p]; e++) {
                    h = 31 * h + place[p * MOST_ERRANDS + e];
                    h = 31 * h + hour[p * MOST_ERRANDS + e];
                }
            }
            return h;
        }
    }

    /** All that an IMAGE keeps. */
    private static final class Scene {
        private final Town town;
        private final int[] gains = new int[ALL_PARTNERS + 1];
        private final int[] tied = new int[MOST_WEEKS * MOST_THREES];
        private final int[] sightPerson = new int[MOST_SIGHTS];
        private final int[] sightPlace = new int[MOST_SIGHTS];
        private final int[] sightHour = new int[MOST_SIGHTS];
        private int weeks;
        private int sights;

        private Scene(Town itsTown) {
            town = itsTown;
        }

        private void forgetWeeksAndSights() {
            weeks = 0;
            sights = 0;
        }

        private int addWeek(int a, int b, int c) {
            if (weeks >= MOST_WEEKS) {
                return NONE;
            }
            tied[weeks * MOST_THREES] = a;
            tied[weeks * MOST_THREES + 1] = b;
            tied[weeks * MOST_THREES + 2] = c;
            weeks++;
            return weeks - 1;
        }

        private int addSight(int person, int place, int hour) {
            if (sights >= MOST_SIGHTS) {
                return NONE;
            }
            sightPerson[sights] = person;
            sightPlace[sights] = place;
            sightHour[sights] = hour;
            sights++;
            return sights - 1;
        }

        /** Who knows a secret behind the WEEK, of those who know it ahead of it. */
        private int toldInWeek(int week, int knowing) {
            int then = knowing;
            for (int i = 0; i < MOST_THREES; i++) {
                int three = tied[week * MOST_THREES + i];
                if ((three & knowing) != 0) {
                    then |= three;
                }
            }
            return then;
        }

        private void become(Scene other) {
            town.become(other.town);
            System.arraycopy(other.gains, 0, gains, 0, ALL_PARTNERS + 1);
            System.arraycopy(other.tied, 0, tied, 0, MOST_WEEKS * MOST_THREES);
            System.arraycopy(other.sightPerson, 0, sightPerson, 0, MOST_SIGHTS);
            System.arraycopy(other.sightPlace, 0, sightPlace, 0, MOST_SIGHTS);
            System.arraycopy(other.sightHour, 0, sightHour, 0, MOST_SIGHTS);
            weeks = other.weeks;
            sights = other.sights;
        }

        private long digested(long start) {
            long h = town.digested(start);
            for (int set = 1; set <= ALL_PARTNERS; set++) {
                h = 31 * h + gains[set];
            }
            for (int i = 0; i < weeks * MOST_THREES; i++) {
                h = 31 * h + tied[i];
            }
            for (int i = 0; i < sights; i++) {
                h = 31 * h + sightPerson[i];
                h = 31 * h + sightPlace[i];
                h = 31 * h + sightHour[i];
            }
            return h;
        }
    }

    /** KIND 0, and what the KINDS under it fall back on; i is which of the three votes. */
    private static class Person {
        int vote(Day day, int i) {
            return day.wish[i];
        }
    }

    private static final class Hasty extends Person {
        int vote(Day day, int i) {
            return day.mostPressing(i);
        }
    }

    private static final class Stubborn extends Person {
        int vote(Day day, int i) {
            int first = day.firstUndone(i);
            return first == NONE ? day.wish[i] : first;
        }
    }

    private static class Kind extends Person {
        int vote(Day day, int i) {
            return kindly(day, i);
        }

        final int kindly(Day day, int i) {
            if (day.busy[i]) {
                return day.wish[i];
            }
            // the three stand in rising order, so the lesser of the others is the first but him
            return day.wish[i == 0 ? 1 : 0];
        }
    }

    private static final class Idle extends Kind {
        int vote(Day day, int i) {
            return day.hour % 2 == 0 ? day.at : kindly(day, i);
        }
    }

    /** A DAY of a THREE, as they vote. */
    private static final class Day {
        private final Town town;
        private final Person[] voters = new Person[KINDS];
        private final int[] members = new int[3];
        private final int[] wish = new int[3];
        private final boolean[] busy = new boolean[3];
        private final boolean[] isDone = new boolean[MOST_PEOPLE * MOST_ERRANDS];
        private final int[] where = new int[HOURS];
        private int hour;
        private int at;
        private int doneMany;

        private Day(Town itsTown) {
            town = itsTown;
            voters[0] = new Person();
            voters[1] = new Hasty();
            voters[2] = new Stubborn();
            voters[3] = new Kind();
            voters[4] = new Idle();
        }

        private void pass(int three) {
            begin(three);
            boolean quick = town.isQuick(three);
            for (int h = 0; h < HOURS; h++) {
                hour = h;
                lookAround();
                int target = chosen();
                stepTowards(target);
                if (quick) {
                    stepTowards(target);
                }
                doErrands();
                where[h] = at;
            }
        }

        private void begin(int three) {
            at = 0;
            doneMany = 0;
            int i = 0;
            for (int p = 0; p < town.people && i < 3; p++) {
                if (isIn(three, p)) {
                    members[i] = p;
                    i++;
                }
            }
            for (int e = 0; e < MOST_PEOPLE * MOST_ERRANDS; e++) {
                isDone[e] = false;
            }
        }

        private boolean isOpen(int errand) {
            return !isDone[errand] && town.hour[errand] >= hour;
        }

        /** What each of them would vote for as a PERSON, and who has an OPEN ERRAND. */
        private void lookAround() {
            for (int i = 0; i < 3; i++) {
                int start = members[i] * MOST_ERRANDS;
                wish[i] = at;
                busy[i] = false;
                for (int e = start; e < start + town.errands[members[i]] && !busy[i]; e++) {
                    if (isOpen(e)) {
                        wish[i] = town.place[e];
                        busy[i] = true;
                    }
                }
            }
        }

        private int mostPressing(int i) {
            int start = members[i] * MOST_ERRANDS;
            int place = at;
            int least = HOURS;
            for (int e = start; e < start + town.errands[members[i]]; e++) {
                if (isOpen(e) && town.hour[e] < least) {
                    least = town.hour[e];
                    place = town.place[e];
                }
            }
            return place;
        }

        /** The PLACE of his ERRAND 0 as long as it is not DONE. */
        private int firstUndone(int i) {
            int first = members[i] * MOST_ERRANDS;
            return town.errands[members[i]] == 0 || isDone[first] ? NONE : town.place[first];
        }

        private int chosen() {
            int a = voters[town.kind[members[0]]].vote(this, 0);
            int b = voters[town.kind[members[1]]].vote(this, 1);
            int c = voters[town.kind[members[2]]].vote(this, 2);
            return b == c ? b : a;
        }

        private void stepTowards(int target) {
            int rising = town.onRing(target - at);
            if (rising == 0) {
                return;
            }
            at = town.onRing(2 * rising <= town.places ? at + 1 : at - 1);
        }

        private void doErrands() {
            for (int p : members) {
                int start = p * MOST_ERRANDS;
                for (int e = start; e < start + town.errands[p]; e++) {
                    if (town.place[e] == at && isOpen(e)) {
                        isDone[e] = true;
                        doneMany++;
                    }
                }
            }
        }
    }

    /**
     * BEST: a PLACE pays at the first HOUR that ends there, so the most is sought over where
     * they are and which PLACES they have been at (a state: the PLACE times 64 and those).
     */
    private static final class FreeDay {
        private static final int STATES = MOST_PLACES * 64;

        private final Town town;
        private final int[] worth = new int[MOST_PLACES * HOURS];
        private int[] now = new int[STATES];
        private int[] next = new int[STATES];

        private FreeDay(Town itsTown) {
            town = itsTown;
        }

        private int mostDone(int three) {
            weigh(three);
            int reach = town.isQuick(three) ? 2 : 1;
            Arrays.fill(now, NONE);
            now[0] = 0;
            for (int h = 0; h < HOURS; h++) {
                passHour(h, reach);
            }
            int most = 0;
            for (int done : now) {
                most = Math.max(most, done);
            }
            return most;
        }

        /** How many ERRANDS are DONE by coming to a PLACE first in an HOUR. */
        private void weigh(int three) {
            Arrays.fill(worth, 0);
            for (int p = 0; p < town.people; p++) {
                if (isIn(three, p)) {
                    weighErrandsOf(p);
                }
            }
        }

        private void weighErrandsOf(int p) {
            int start = p * MOST_ERRANDS;
            for (int e = start; e < start + town.errands[p]; e++) {
                for (int h = 0; h <= town.hour[e]; h++) {
                    worth[town.place[e] * HOURS + h]++;
                }
            }
        }

        private void passHour(int h, int reach) {
            Arrays.fill(next, NONE);
            for (int state = 0; state < STATES; state++) {
                if (now[state] != NONE) {
                    goOn(state, h, reach);
                }
            }
            int[] old = now;
            now = next;
            next = old;
        }

        private void goOn(int state, int h, int reach) {
            int been = state & 63;
            int at = state >> 6;
            for (int step = -reach; step <= reach; step++) {
                int to = town.onRing(at + step);
                int done = now[state] + (isIn(been, to) ? 0 : worth[to * HOURS + h]);
                int then = (to << 6) + (been | 1 << to);
                next[then] = Math.max(next[then], done);
            }
        }
    }

    /** ALL IN THREES: a split is three numbers in the rows, each a THREE or 0, in MOST's order. */
    private static final class Splits {
        private static final int ALL_THREES = 84;
        private static final int MOST_SPLITS = 280;

        private final int[] threes = new int[ALL_THREES];
        private final long[] pairs = new long[GROUPS];
        private final int[] done = new int[GROUPS];
        private final int[] split = new int[MOST_SPLITS * MOST_THREES];
        private final long[] together = new long[MOST_SPLITS];
        private int many;

        private Splits() {
            int n = 0;
            for (int k = 2; k < MOST_PEOPLE; k++) {
                for (int j = 1; j < k; j++) {
                    for (int i = 0; i < j; i++) {
                        int three = 1 << i | 1 << j | 1 << k;
                        threes[n] = three;
                        pairs[three] = pairBit(i, j) | pairBit(i, k) | pairBit(j, k);
                        n++;
                    }
                }
            }
        }

        private static long pairBit(int lesser, int greater) {
            return 1L << (greater * (greater - 1) / 2 + lesser);
        }

        /** Lists all splits of 3, 6 or 9 people. */
        private void list(int people) {
            many = 0;
            int all = (1 << people) - 1;
            for (int a : threes) {
                if (tiesLeast(a, all)) {
                    listBehind(a, all & ~a);
                }
            }
        }

        private void listBehind(int a, int left) {
            if (left == 0) {
                add(a, 0, 0);
                return;
            }
            for (int b : threes) {
                if (tiesLeast(b, left)) {
                    add(a, b, left & ~b);
                }
            }
        }

        private static boolean tiesLeast(int three, int left) {
            return (three & ~left) == 0 && (three & (left & -left)) != 0;
        }

        private void add(int a, int b, int c) {
            if (many >= MOST_SPLITS) {
                return;
            }
            split[many * MOST_THREES] = a;
            split[many * MOST_THREES + 1] = b;
            split[many * MOST_THREES + 2] = c;
            together[many] = pairs[a] | pairs[b] | pairs[c];
            many++;
        }

        private int doneBy(int s) {
            int sum = 0;
            for (int i = s * MOST_THREES; i < (s + 1) * MOST_THREES; i++) {
                sum += done[split[i]];
            }
            return sum;
        }

        private int firstOfMost() {
            int first = 0;
            for (int s = 1; s < many; s++) {
                if (doneBy(s) > doneBy(first)) {
                    first = s;
                }
            }
            return first;
        }

        private int threeOf(int s, int person) {
            for (int i = s * MOST_THREES; i < (s + 1) * MOST_THREES; i++) {
                if (isIn(split[i], person)) {
                    return split[i];
                }
            }
            return 0;
        }

        /** Renaming PEOPLE makes any split of any other, so as many rows begin with each. */
        private long rowsOf(int w) {
            return many * rowsBehind(together, many, together[0], w - 1);
        }

        /** How many rows of the WEEKS left go on from one in which the pairs met have met. */
        private static long rowsBehind(long[] weeks, int many, long met, int left) {
            if (left <= 0) {
                return 1;
            }
            long rows = 0;
            for (int s = 0; s < many; s++) {
                if ((weeks[s] & met) == 0) {
                    rows += rowsBehind(weeks, many, met | weeks[s], left - 1);
                }
            }
            return rows;
        }
    }

    /** Reads THE TOWN off THE TEXT into a town of its own; the first FAULT ends it. */
    private static final class TownReader {
        private final Town town = new Town();
        private int[] bytes = new int[0];
        private int length;
        private int pos;
        private int fault;

        /** How many ITEMS, or -10 less the FAULT. */
        private int readTown(int[] text, int itsLength) {
            bytes = text;
            length = Math.min(itsLength, text.length);
            pos = 0;
            fault = NONE;
            town.startOver(FIRST_PLACES);
            int items = 0;
            skipBlanks();
            while (pos < length && fault == NONE && items < MOST_TEXT) {
                readItem();
                skipBlanks();
                items++;
            }
            return fault == NONE ? items : FAULT_BASE - fault;
        }

        private void readItem() {
            int start = pos;
            skipWord();
            if (isWord(start, "places") && town.errandsOfAll() == 0) {
                readPlaces();
            } else if (isWord(start, "person") && town.people < MOST_PEOPLE) {
                readPerson();
            } else if (isWord(start, "errand")) {
                readErrand();
            } else {
                fault = start;
            }
        }

        private void readPlaces() {
            int n = number(1, MOST_PLACES);
            end();
            if (fault == NONE) {
                town.places = n;
            }
        }

        private void readPerson() {
            int kind = number(0, KINDS - 1);
            int pace = number(1, MOST_PACE);
            end();
            if (fault == NONE) {
                town.addPerson(kind, pace);
            }
        }

        private void readErrand() {
            int p = number(0, town.people - 1);
            if (town.hasPerson(p) && town.errands[p] >= MOST_ERRANDS) {
                fault = pos - 1;
            }
            int place = number(0, town.places - 1);
            int hour = number(0, HOURS - 1);
            end();
            if (fault == NONE) {
                town.addErrand(p, place, hour);
            }
        }

        private void skipBlanks() {
            while (pos < length && bytes[pos] == ' ') {
                pos++;
            }
        }

        private void skipWord() {
            while (pos < length && bytes[pos] >= 'a' && bytes[pos] <= 'z') {
                pos++;
            }
        }

        private boolean isWord(int start, String word) {
            if (pos - start != word.length()) {
                return false;
            }
            for (int i = 0; i < word.length(); i++) {
                if (bytes[start + i] != word.charAt(i)) {
                    return false;
                }
            }
            return true;
        }

        private boolean isFigure(int at) {
            return at < length && bytes[at] >= '0' && bytes[at] <= '9';
        }

        /** The next TOKEN, a number from least to greatest; NONE behind a FAULT. */
        private int number(int least, int greatest) {
            if (fault != NONE) {
                return NONE;
            }
            skipBlanks();
            int value = isFigure(pos) && !isFigure(pos + 1) ? bytes[pos] - '0' : NONE;
            if (value < least || value > greatest) {
                fault = pos;
                return NONE;
            }
            pos++;
            return value;
        }

        private void end() {
            if (fault != NONE) {
                return;
            }
            skipBlanks();
            if (pos < length && bytes[pos] == ';') {
                pos++;
            } else {
                fault = pos;
            }
        }
    }
}
