/** The edges of promises 1 to 7: a new object, places, people, errands, THE TEXT. A test for each sentence. */
public final class EdgesTownTest {
    private static final Check C = new Check();
    private static final Twins NEW = new Twins(C, "a new object", Towns::nothing);
    private static final Twins SOME = new Twins(C, "some of all", Towns::some);
    private static final Twins FULL = new Twins(C, "all that there is room for", Towns::full);
    private static final int NONE = TiedThrees.NONE;

    public static void main(String[] args) {
        Sentences.run(EdgesTownTest.class, C, 1, 7);
    }

    private static void countsAre(TiedThrees x, int... counts) {
        for (int what = 0; what < counts.length; what++) {
            C.due("count(" + what + ")", x.count(what), counts[what]);
        }
    }

    // ---- promise 1

    @Says(promise = 1, text = "NONE = -1, BAD = -2, NO = -3, FULL = -4")
    static void constants() {
        C.due("NONE", TiedThrees.NONE, -1);
        C.due("BAD", TiedThrees.BAD, -2);
        C.due("NO", TiedThrees.NO, -3);
        C.due("FULL", TiedThrees.FULL, -4);
    }

    @Says(promise = 1, text = "PLACES 0 to n less 1 (.. 4 at first)")
    static void fourPlacesAtFirst() {
        C.due("count(0)", new TiedThrees().count(0), 4);
        Twins one = NEW.behind("one person", x -> x.person(0, 1));
        C.due("errand(0, 3, 0)", one.one().errand(0, 3, 0), 0);
        one.bad("errand(0, 4, 0)", x -> x.errand(0, 4, 0));
        C.due("places(4)", new TiedThrees().places(4), 4);
    }

    @Says(promise = 1, text = "nobody")
    static void nobodyAtFirst() {
        C.due("count(1)", new TiedThrees().count(1), 0);
        C.due("count(2)", new TiedThrees().count(2), 0);
        C.due("knows(0, 0)", new TiedThrees().knows(0, 0), 0);
        NEW.bad("knows(1, 0)", x -> x.knows(1, 0));
        NEW.bad("when(0, 0)", x -> x.when(0, 0));
        NEW.bad("errand(0, 0, 0)", x -> x.errand(0, 0, 0));
        NEW.bad("drop(0)", x -> x.drop(0));
        NEW.bad("sight(0, 0, 0)", x -> x.sight(0, 0, 0));
        NEW.bad("best(7)", x -> x.best(7));
        NEW.bad("day(7, NONE)", x -> x.day(7, NONE), -10);
        NEW.bad("which(0, NONE)", x -> x.which(0, NONE), -10);
        NEW.bad("week(7, 0, 0)", x -> x.week(7, 0, 0));
        NEW.bad("lot(0, 0)", x -> x.lot(0, 0));
        C.due("person(0, 1)", new TiedThrees().person(0, 1), 0);
    }

    @Says(promise = 1, text = "As told; nobody: no WEEKS, no SIGHTS, THE TEXT is empty")
    static void nothingElseAtFirst() {
        countsAre(new TiedThrees(), 4, 0, 0, 0, 0, 0);
        C.due("loose()", new TiedThrees().loose(), 0);
        C.due("blind()", new TiedThrees().blind(), 0);
        C.due("clear()", new TiedThrees().clear(), 0);
        C.due("read()", new TiedThrees().read(), 0);
        C.due("week(0, 0, 0)", new TiedThrees().week(0, 0, 0), 0);
    }

    @Says(promise = 1, text = "GAINS .. 0 at first")
    static void noGainsAtFirst() {
        for (int set = 1; set <= 7; set++) {
            C.due("gain(" + set + ", 99)", new TiedThrees().gain(set, 99), 0);
        }
    }

    @Says(promise = 1, text = "THE FRACTION is 0 by 1 at first")
    static void fractionAtFirst() {
        C.due("part(0)", new TiedThrees().part(0), 0);
        C.due("part(1)", new TiedThrees().part(1), 1);
    }

    @Says(promise = 1, text = "STATUS: how many calls were refused: none at first")
    static void nothingRefusedAtFirst() {
        for (int what = 0; what < 3; what++) {
            C.due("status(" + what + ")", new TiedThrees().status(what), 0);
        }
    }

    @Says(promise = 1, text = "NO: none was kept (no IMAGE at first)")
    static void noImagesAtFirst() {
        NEW.no("from(0)", x -> x.from(0));
        NEW.no("from(1)", x -> x.from(1));
    }

    @Says(promise = 1, text = "A new object: what another object holds is not in it")
    static void objectsAreApart() {
        TiedThrees x = new TiedThrees();
        Towns.full(x);
        x.places(0);
        TiedThrees y = new TiedThrees();
        countsAre(y, 4, 0, 0, 0, 0, 0);
        C.due("from(1)", y.from(1), TiedThrees.NO);
        C.due("status(0)", y.status(0), 0);
        Towns.some(y);
        countsAre(x, 6, 9, 36, 6, 5, 250);
    }

    @Says(promise = 1, text = "An object is used for at most 512 calls after it has been made")
    static void calledAsOftenAsAllowed() {
        TiedThrees refusing = new TiedThrees();
        for (int call = 1; call <= 511; call++) {
            refusing.places(call % 2 == 0 ? 0 : 7);
        }
        C.due("status(0) as call 512", refusing.status(0), 511);
        TiedThrees asked = Towns.plain(9);
        asked.errand(8, 0, 0);
        for (int call = 11; call <= 511; call++) {
            C.due("most(NONE) as call " + call, asked.most(NONE), 1);
        }
        C.due("rows(4) as call 512", asked.rows(4), 20160);
        TiedThrees changing = new TiedThrees();
        for (int call = 1; call <= 512; call++) {
            int n = 1 + call % 6;
            C.due("places(" + n + ") as call " + call, changing.places(n), call == 1 ? 4 : 1 + (call - 1) % 6);
        }
    }

    // ---- promise 2

    @Says(promise = 2, text = "(n 1 .. 6 ..): what n was")
    static void leastAndMostPlaces() {
        for (int old = 1; old <= 6; old++) {
            for (int n = 1; n <= 6; n++) {
                TiedThrees x = new TiedThrees();
                C.due("places(" + old + ") of a new one", x.places(old), 4);
                C.due("places(" + n + ")", x.places(n), old);
                C.due("count(0)", x.count(0), n);
            }
        }
    }

    @Says(promise = 2, text = "BAD -2 a number is not as told")
    static void placesBad() {
        for (Twins town : new Twins[] {NEW, SOME, FULL}) {
            town.badBeyond(1, 6, "places", (x, n) -> x.places(n));
            town.bad("places(-1)", x -> x.places(-1));
        }
    }

    @Says(promise = 2, text = "n PLACES, nobody")
    static void placesSendAllAway() {
        for (Twins town : new Twins[] {NEW, SOME, FULL}) {
            TiedThrees x = town.one();
            x.places(6);
            C.due("count(1)", x.count(1), 0);
            C.due("count(2)", x.count(2), 0);
            C.due("most(0)", x.most(0), -10);
            C.due("person(0, 1)", x.person(0, 1), 0);
            C.due("drop(0) of one who is new", x.drop(0), TiedThrees.NO);
            C.due("errand(0, 0, 0)", x.errand(0, 0, 0), 0);
        }
    }

    @Says(promise = 2, text = "n PLACES, nobody: also if there are as many already")
    static void asManyPlacesAgain() {
        TiedThrees x = FULL.one();
        C.due("places(6)", x.places(6), 6);
        countsAre(x, 6, 0, 0, 0, 0, 250);
    }

    @Says(promise = 2, text = "no WEEKS, SIGHTS")
    static void placesForgetWeeksAndSights() {
        TiedThrees x = FULL.one();
        x.places(1);
        C.due("count(3)", x.count(3), 0);
        C.due("count(4)", x.count(4), 0);
        C.due("loose()", x.loose(), 0);
        C.due("blind()", x.blind(), 0);
        C.due("knows(0, 1)", x.knows(0, 1), TiedThrees.BAD);
        Towns.people(x, 3);
        C.due("which(0, NONE)", x.which(0, NONE), 1);
        C.due("week(0, 0, 7)", x.week(0, 0, 7), 0);
        C.due("sight(0, 0, 0)", x.sight(0, 0, 0), 0);
    }

    @Says(promise = 2, text = "(GAINS stay), and what is not told to go: THE TEXT, THE FRACTION, STATUS, IMAGES")
    static void placesLeaveTheRest() {
        TiedThrees x = FULL.one();
        TiedThrees y = FULL.one();
        x.places(0);
        x.places(2);
        for (int set = 1; set <= 7; set++) {
            C.due("gain(" + set + ", 0)", x.gain(set, 0), set == 7 ? 1 : 99 - set);
        }
        C.due("count(5)", x.count(5), 250);
        C.due("part(0)", x.part(0), y.part(0));
        C.due("part(1)", x.part(1), y.part(1));
        C.due("status(0)", x.status(0), 1);
        for (int image = 0; image < 2; image++) {
            C.due("from(" + image + ")", x.from(image), 1);
            y.from(image);
            C.due("digest()", x.digest(), y.digest());
        }
        C.due("read()", x.read(), 20);
    }

    @Says(promise = 2, text = "PLACES 0 to n less 1")
    static void lastPlaceOfEachRing() {
        for (int n = 1; n <= 6; n++) {
            int places = n;
            Twins ring = NEW.behind(n + " places, one person", x -> {
                x.places(places);
                x.person(0, 1);
            });
            C.due("errand(0, " + (n - 1) + ", 0)", ring.one().errand(0, n - 1, 0), 0);
            C.due("sight(0, " + (n - 1) + ", 0)", ring.one().sight(0, n - 1, 0), 0);
            ring.bad("errand(0, " + n + ", 0)", x -> x.errand(0, places, 0));
            ring.bad("sight(0, " + n + ", 0)", x -> x.sight(0, places, 0));
        }
    }

    // ---- promise 3

    @Says(promise = 3, text = "a KIND (0 PERSON .. 4 IDLE), a PACE (1 .. 9)")
    static void leastAndMostKindAndPace() {
        for (int kind = 0; kind <= 4; kind++) {
            for (int pace = 1; pace <= 9; pace++) {
                TiedThrees x = new TiedThrees();
                C.due("person(" + kind + ", " + pace + ")", x.person(kind, pace), 0);
                C.due("count(1)", x.count(1), 1);
            }
        }
    }

    @Says(promise = 3, text = "BAD: a number is not as told")
    static void personBad() {
        for (Twins town : new Twins[] {NEW, SOME, FULL}) {
            town.badBeyond(0, 4, "person(kind, 1)", (x, kind) -> x.person(kind, 1));
            town.badBeyond(0, 4, "person(kind, 9)", (x, kind) -> x.person(kind, 9));
            town.badBeyond(1, 9, "person(0, pace)", (x, pace) -> x.person(0, pace));
            town.badBeyond(1, 9, "person(4, pace)", (x, pace) -> x.person(4, pace));
        }
    }

    @Says(promise = 3, text = "PEOPLE 0 .. 8, as they come: the number")
    static void asManyPeopleAsThereIsRoomFor() {
        TiedThrees x = new TiedThrees();
        for (int i = 0; i < 9; i++) {
            C.due("person " + i, x.person(4 - i % 5, 9 - i), i);
            C.due("count(1)", x.count(1), i + 1);
        }
    }

    @Says(promise = 3, text = "FULL: 9")
    static void personFull() {
        Twins nine = NEW.behind("nine people", x -> Towns.people(x, 9));
        C.due("person() as the 9th", NEW.behind("eight", x -> Towns.people(x, 8)).one().person(0, 1), 8);
        nine.full("person(0, 1)", x -> x.person(0, 1));
        nine.full("person(4, 9)", x -> x.person(4, 9));
        FULL.full("person(0, 1)", x -> x.person(0, 1));
        FULL.behind("a 10th refused", x -> x.person(0, 1)).full("person(0, 1)", x -> x.person(0, 1));
        TiedThrees again = nine.one();
        again.places(4);
        C.due("person() of nobody again", again.person(0, 1), 0);
    }

    @Says(promise = 3, text = "Refused .. the first of: BAD -2 .. FULL -4")
    static void personBadAheadOfFull() {
        FULL.bad("person(5, 1)", x -> x.person(5, 1));
        FULL.bad("person(0, 10)", x -> x.person(0, 10));
    }

    @Says(promise = 3, text = "One of PEOPLE: WEEKS, SIGHTS and what the others have stay; he has no ERRAND")
    static void onePersonMore() {
        TiedThrees x = SOME.one();
        C.due("person(2, 9)", x.person(2, 9), 3);
        countsAre(x, 4, 4, 3, 1, 1, 20);
        C.due("drop(3)", x.drop(3), TiedThrees.NO);
    }

    // ---- promise 4

    @Says(promise = 4, text = "An ERRAND of one: BAD one who is not there")
    static void errandOfNobody() {
        NEW.badBeyond(0, -1, "errand(person, 0, 0)", (x, p) -> x.errand(p, 0, 0));
        SOME.badBeyond(0, 2, "errand(person, 0, 0)", (x, p) -> x.errand(p, 0, 0));
        FULL.badBeyond(0, 8, "errand(person, 0, 0)", (x, p) -> x.errand(p, 0, 0));
        C.due("errand() of the least one", SOME.one().errand(0, 0, 0), 2);
        C.due("errand() of the last one", SOME.one().errand(2, 0, 0), 0);
    }

    @Says(promise = 4, text = "a PLACE: BAD one that is not there")
    static void errandNowhere() {
        SOME.badBeyond(0, 3, "errand(2, place, 0)", (x, place) -> x.errand(2, place, 0));
        FULL.badBeyond(0, 5, "errand(2, place, 0)", (x, place) -> x.errand(2, place, 0));
        C.due("errand(2, 0, 9)", SOME.one().errand(2, 0, 9), 0);
        C.due("errand(2, 3, 9)", SOME.one().errand(2, 3, 9), 0);
    }

    @Says(promise = 4, text = "an HOUR (0 .. 9)")
    static void errandInNoHour() {
        SOME.badBeyond(0, 9, "errand(2, 0, hour)", (x, hour) -> x.errand(2, 0, hour));
        FULL.badBeyond(0, 9, "errand(2, 0, hour)", (x, hour) -> x.errand(2, 0, hour));
        C.due("errand(2, 0, 0)", SOME.one().errand(2, 0, 0), 0);
        C.due("errand(2, 0, 9)", SOME.one().errand(2, 0, 9), 0);
    }

    @Says(promise = 4, text = "ERRANDS of one, 0 .. 3, as they come: its number")
    static void asManyErrandsAsThereIsRoomFor() {
        TiedThrees x = new TiedThrees();
        x.places(6);
        Towns.people(x, 9);
        for (int e = 0; e < 4; e++) {
            for (int p = 8; p >= 0; p--) {
                C.due("errand(" + p + ", 5, 9)", x.errand(p, 5, 9), e);
            }
            C.due("count(2)", x.count(2), 9 * (e + 1));
        }
    }

    @Says(promise = 4, text = "FULL: 4")
    static void errandFull() {
        Twins four = SOME.behind("person 1 has four", x -> {
            for (int e = 1; e < 4; e++) {
                x.errand(1, e, e);
            }
        });
        four.full("errand(1, 0, 0)", x -> x.errand(1, 0, 0));
        four.full("errand(1, 3, 9)", x -> x.errand(1, 3, 9));
        C.due("errand() of one who has fewer", four.one().errand(0, 0, 0), 2);
        for (int p = 0; p < 9; p++) {
            int person = p;
            FULL.full("errand(" + p + ", 0, 0)", x -> x.errand(person, 0, 0));
        }
        TiedThrees x = four.one();
        x.drop(1);
        C.due("errand() behind a drop", x.errand(1, 0, 0), 3);
        C.due("errand() that is one too many again", x.errand(1, 0, 0), TiedThrees.FULL);
    }

    @Says(promise = 4, text = "Refused .. the first of: BAD -2 .. FULL -4")
    static void errandBadAheadOfFull() {
        FULL.bad("errand(0, 6, 0)", x -> x.errand(0, 6, 0));
        FULL.bad("errand(0, 0, 10)", x -> x.errand(0, 0, 10));
        FULL.bad("errand(8, -1, -1)", x -> x.errand(8, -1, -1));
    }

    // ---- promise 5

    @Says(promise = 5, text = "The last ERRAND of one goes: how many he has then")
    static void dropFromTheEnd() {
        TiedThrees x = new TiedThrees();
        x.places(6);
        Towns.people(x, 3);
        TiedThrees y = new TiedThrees();
        y.places(6);
        Towns.people(y, 3);
        for (int e = 0; e < 4; e++) {
            x.errand(1, e, 9 - e);
            x.errand(2, 5, e);
        }
        y.errand(1, 0, 9);
        for (int e = 0; e < 4; e++) {
            y.errand(2, 5, e);
        }
        C.due("drop(1)", x.drop(1), 3);
        C.due("drop(1)", x.drop(1), 2);
        C.due("drop(1)", x.drop(1), 1);
        C.due("digest() with his first one left", x.digest(), y.digest());
        C.due("drop(1)", x.drop(1), 0);
        C.due("count(2)", x.count(2), 4);
    }

    @Says(promise = 5, text = "BAD: a number is not as told")
    static void dropBad() {
        NEW.badBeyond(0, -1, "drop", (x, p) -> x.drop(p));
        SOME.badBeyond(0, 2, "drop", (x, p) -> x.drop(p));
        FULL.badBeyond(0, 8, "drop", (x, p) -> x.drop(p));
    }

    @Says(promise = 5, text = "NO: he has none")
    static void dropNo() {
        SOME.no("drop(2), who never had one", x -> x.drop(2));
        SOME.behind("his last one gone", x -> x.drop(1)).no("drop(1)", x -> x.drop(1));
        C.due("drop(1) of his only one", SOME.one().drop(1), 0);
        C.due("drop(8) of four", FULL.one().drop(8), 3);
    }

    @Says(promise = 5, text = "goes: one that comes then has its number, and is as told then")
    static void errandBehindADrop() {
        TiedThrees x = Towns.plain(3);
        x.errand(1, 1, 9);
        x.drop(1);
        C.due("errand(1, 2, 8)", x.errand(1, 2, 8), 0);
        TiedThrees y = Towns.plain(3);
        y.errand(1, 2, 8);
        C.due("digest()", x.digest(), y.digest());
    }

    // ---- promise 6

    @Says(promise = 6, text = "The lowest n (1 .. 8) bytes of v, the highest of them first, come to THE TEXT")
    static void leastAndMostBytesOfANumber() {
        String text = "person 4 9;places 6;person 2 1; ";
        for (int n = 1; n <= 8; n++) {
            TiedThrees x = new TiedThrees();
            for (int i = 0; i < text.length(); i += n) {
                String part = text.substring(i, Math.min(text.length(), i + n));
                long above = i % 2 == 0 ? -1 : 0x6162636465666768L;
                C.due("type() by " + n, x.type(packed(part, above), part.length()), i + part.length());
            }
            C.due("read() of what came by " + n, x.read(), 3);
            countsAre(x, 6, 2, 0, 0, 0, 32);
        }
    }

    /** The bytes of a part, with the bits of another number above them. */
    private static long packed(String part, long above) {
        long v = above;
        for (int i = 0; i < part.length(); i++) {
            v = v << 8 | part.charAt(i);
        }
        return v;
    }

    @Says(promise = 6, text = "bytes: 0 to 255, none of them below 0")
    static void leastAndMostByte() {
        for (long v : new long[] {0, -1, Long.MIN_VALUE, Long.MAX_VALUE}) {
            TiedThrees x = new TiedThrees();
            C.due("type(" + v + ", 8)", x.type(v, 8), 8);
            C.due("read()", x.read(), -10);
        }
        // a byte that is 32, ';' or a letter but for its highest bit is none of them
        for (char sign : " ;p3".toCharArray()) {
            TiedThrees x = new TiedThrees();
            x.type(sign | 128, 1);
            C.due("read() of byte " + (sign | 128), x.read(), -10);
        }
    }

    @Says(promise = 6, text = "BAD: n (1 .. 8)")
    static void typeBad() {
        for (Twins town : new Twins[] {NEW, SOME, FULL}) {
            town.badBeyond(1, 8, "type(0, n)", (x, n) -> x.type(0, n));
            town.badBeyond(1, 8, "type(-1, n)", (x, n) -> x.type(-1, n));
            town.bad("type(0, -1)", x -> x.type(0, -1));
        }
    }

    @Says(promise = 6, text = "a TEXT (250 bytes at most); FULL")
    static void typeFull() {
        for (int n = 1; n <= 8; n++) {
            int bytes = n;
            Twins justRoom = NEW.behind((250 - n) + " bytes", x -> typeMany(x, 250 - bytes));
            Twins tooLittle = NEW.behind((251 - n) + " bytes", x -> typeMany(x, 251 - bytes));
            C.due("type(0, " + n + ") up to 250", justRoom.one().type(0, n), 250);
            tooLittle.full("type(0, " + n + ") up to 251", x -> x.type(0, bytes));
            FULL.full("type(32, " + n + ")", x -> x.type(32, bytes));
        }
        TiedThrees x = FULL.one();
        x.type(0, 1);
        C.due("clear() of a full one", x.clear(), 250);
        C.due("type() where there is room again", x.type(0, 8), 8);
    }

    private static void typeMany(TiedThrees x, int many) {
        for (int left = many; left > 0; left -= 8) {
            x.type(0x2020202020202020L, Math.min(8, left));
        }
    }

    @Says(promise = 6, text = "Refused .. the first of: BAD -2 .. FULL -4")
    static void typeBadAheadOfFull() {
        FULL.bad("type(0, 0)", x -> x.type(0, 0));
        FULL.bad("type(0, 9)", x -> x.type(0, 9));
    }

    @Says(promise = 6, text = "come to THE TEXT: behind what it has, and nothing else changes")
    static void typedBehindTheRest() {
        TiedThrees x = SOME.one();
        C.due("type(\"person \")", x.type(packed("person ", 0), 7), 27);
        C.due("type(\"1 1;\")", x.type(packed("1 1;", 0), 4), 31);
        countsAre(x, 4, 3, 3, 1, 1, 31);
        C.due("read()", x.read(), 3);
        countsAre(x, 2, 2, 0, 0, 0, 31);
    }

    // ---- promise 7

    @Says(promise = 7, text = "THE TEXT is empty: how many it had")
    static void clearOfNothingAndOfAll() {
        C.due("clear() of an empty one", new TiedThrees().clear(), 0);
        TiedThrees one = new TiedThrees();
        one.type(0, 1);
        C.due("clear() of a byte", one.clear(), 1);
        C.due("clear() again", one.clear(), 0);
        TiedThrees x = FULL.one();
        C.due("clear() of as much as there is room for", x.clear(), 250);
        C.due("count(5)", x.count(5), 0);
        C.due("clear() again", x.clear(), 0);
        C.due("status(0)", x.status(0), 0);
    }

    @Says(promise = 7, text = "THE TEXT is empty: what it had does not come back")
    static void clearedBytesAreGone() {
        TiedThrees x = new TiedThrees();
        Towns.type(x, "person 0 1;person 0 1;");
        x.clear();
        Towns.type(x, "person 0 1");
        C.due("read()", x.read(), -20);
        x.clear();
        Towns.type(x, "pers");
        C.due("read()", x.read(), -10);
        x.clear();
        C.due("read() of an empty one", x.read(), 0);
    }

    @Says(promise = 7, text = "THE TEXT is empty: all else stays")
    static void clearLeavesTheRest() {
        TiedThrees x = FULL.one();
        TiedThrees y = FULL.one();
        x.clear();
        countsAre(x, 6, 9, 36, 6, 5, 0);
        Towns.type(x, Towns.LONGEST);
        C.due("digest() with the same TEXT again", x.digest(), y.digest());
        C.due("from(0)", x.from(0), 1);
        C.due("from(1)", x.from(1), 1);
    }
}
