/** The edges of promise 8: what stands in a TOWN's text, its FAULTS, and what a read leaves. A test for each sentence. */
public final class EdgesReadTest {
    private static final Check C = new Check();
    private static final Twins NEW = new Twins(C, "a new object", Towns::nothing);
    private static final Twins FULL = new Twins(C, "all that there is room for", Towns::full);
    private static final String NINE = "person 0 1;".repeat(9);
    private static final String FOUR = "errand 0 0 0;".repeat(4);

    public static void main(String[] args) {
        Sentences.run(EdgesReadTest.class, C, 8, 8);
    }

    private static void countsAre(TiedThrees x, int... counts) {
        for (int what = 0; what < counts.length; what++) {
            C.due("count(" + what + ")", x.count(what), counts[what]);
        }
    }

    private static void reads(String text, int items, int places, int people, int errands) {
        TiedThrees x = new TiedThrees();
        C.due("read() of '" + text + "'", Towns.read(x, text), items);
        countsAre(x, places, people, errands, 0, 0, text.length());
    }

    /** A TEXT with a FAULT: -10 less its place, nothing changes, and it is none of STATUS's three. */
    private static void faults(String text, int fault) {
        Twins typed = FULL.behind("'" + text + "'", x -> {
            x.clear();
            Towns.type(x, text);
        });
        typed.asked("read()", TiedThrees::read, -10 - fault);
    }

    /** The town that a TEXT makes is the one that the calls make. */
    private static void makes(String text, Twins.Setup calls) {
        TiedThrees x = new TiedThrees();
        Towns.read(x, text);
        x.clear();
        TiedThrees y = new TiedThrees();
        calls.on(y);
        C.due("digest() behind '" + text + "'", x.digest(), y.digest());
    }

    // ---- what can stand

    @Says(promise = 8, text = "(an empty one, one of blanks alone: none): how many ITEMS: 0")
    static void emptyText() {
        reads("", 0, 4, 0, 0);
        reads(" ", 0, 4, 0, 0);
        reads(" ".repeat(250), 0, 4, 0, 0);
        TiedThrees x = FULL.one();
        C.due("read() of an empty one in place of a full town", Towns.read(x, ""), 0);
        countsAre(x, 4, 0, 0, 0, 0, 0);
    }

    @Says(promise = 8, text = "THE TOWN is a TEXT (250 bytes at most)")
    static void longestText() {
        reads(Towns.LONGEST, 20, 4, 9, 11);
        String upToTheEnd = Towns.LONGEST.substring(0, 241) + " ".repeat(8) + ";";
        C.due("bytes", upToTheEnd.length(), 250);
        reads(upToTheEnd, 20, 4, 9, 11);
        faults(upToTheEnd.substring(0, 249) + " ", 250);
        faults(upToTheEnd.substring(0, 249) + "x", 249);
        faults(upToTheEnd.substring(0, 249) + "1", 249);
        faults(" ".repeat(249) + ";", 249);
        faults(" ".repeat(244) + "places", 250);
    }

    @Says(promise = 8, text = "how many ITEMS: as many as there is room for")
    static void mostItems() {
        reads("places1;".repeat(31), 31, 1, 0, 0);
        reads("places1;".repeat(30) + "places 6;", 31, 6, 0, 0);
    }

    @Says(promise = 8, text = "places n (n 1 .. 6; told again: the later one)")
    static void placesTold() {
        for (int n = 1; n <= 6; n++) {
            reads("places " + n + ";", 1, n, 0, 0);
            reads("places " + n + ";places 3;", 2, 3, 0, 0);
            reads("places 3;places " + n + ";", 2, n, 0, 0);
        }
        faults("places 0;", 7);
        faults("places 7;", 7);
        faults("places 9;", 7);
        reads("places 6;places 2;places 5;", 3, 5, 0, 0);
    }

    @Says(promise = 8, text = "places n (PEOPLE stay ..)")
    static void placesLeaveThePeople() {
        reads("person 0 1;person 1 2;places 2;", 3, 2, 2, 0);
        makes("person 4 9;places 6;errand 0 5 9;", x -> {
            x.places(6);
            x.person(4, 9);
            x.errand(0, 5, 9);
        });
    }

    @Says(promise = 8, text = "person KIND PACE")
    static void personTold() {
        for (int kind = 0; kind <= 4; kind++) {
            for (int pace = 1; pace <= 9; pace++) {
                int itsKind = kind;
                int itsPace = pace;
                makes("person " + kind + " " + pace + ";", x -> x.person(itsKind, itsPace));
            }
        }
        for (int kind = 5; kind <= 9; kind++) {
            faults("person " + kind + " 1;", 7);
        }
        faults("person 0 0;", 9);
        faults("person 4 10;", 9);
    }

    @Says(promise = 8, text = "errand p PLACE HOUR")
    static void errandTold() {
        for (int hour = 0; hour <= 9; hour++) {
            int itsHour = hour;
            makes("person 0 1;errand 0 0 " + hour + ";", x -> {
                x.person(0, 1);
                x.errand(0, 0, itsHour);
            });
        }
        for (int n = 1; n <= 6; n++) {
            reads("places " + n + ";person 0 1;errand 0 " + (n - 1) + " 0;", 3, n, 1, 1);
            faults("places " + n + ";person 0 1;errand 0 " + n + " 0;", 29);
        }
        makes(NINE + "errand 8 3 2;errand 0 1 4;errand 8 2 3;", x -> {
            for (int p = 0; p < 9; p++) {
                x.person(0, 1);
            }
            x.errand(8, 3, 2);
            x.errand(8, 2, 3);
            x.errand(0, 1, 4);
        });
        faults("person 0 1;errand 0 0 10;", 22);
    }

    @Says(promise = 8, text = "blanks (32), any number, ahead of, between and behind TOKENS (needed only between two words, two numbers)")
    static void blanks() {
        reads("places6;person4 9;errand0 5 9;", 3, 6, 1, 1);
        reads("   places   6   ;   person   4   9   ;   errand   0   5   9   ;   ", 3, 6, 1, 1);
        reads(" places 1;", 1, 1, 0, 0);
        reads("places 1; ", 1, 1, 0, 0);
        reads("places 1 ;", 1, 1, 0, 0);
        reads(" ".repeat(241) + "places 5;", 1, 5, 0, 0);
        reads("places" + " ".repeat(242) + "5;", 1, 5, 0, 0);
        faults("place s 5;", 0);
        faults("placesperson 0 1;", 0);
        faults("person 01;", 7);
        faults("person 0 1;errand 000;", 18);
        faults("person 0 1;errand 0 00;", 20);
    }

    @Says(promise = 8, text = "TOKENS: words of letters a .. z .., figures .., ; ; blanks (32): each byte behind a number")
    static void eachByteBehindANumber() {
        for (int b = 0; b <= 255; b++) {
            String text = "places 3" + (char) b;
            if (b == ';') {
                reads(text, 1, 3, 0, 0);
            } else if (b >= '0' && b <= '9') {
                faults(text, 7);
            } else {
                faults(text, b == ' ' ? 9 : 8);
            }
        }
    }

    @Says(promise = 8, text = "TOKENS ..: each byte behind a word")
    static void eachByteBehindAWord() {
        for (int b = 0; b <= 255; b++) {
            String text = "places" + (char) b + "3;";
            if (b == ' ') {
                reads(text, 1, 3, 0, 0);
            } else {
                faults(text, b >= 'a' && b <= 'z' ? 0 : 6);
            }
        }
    }

    @Says(promise = 8, text = "TOKENS ..: each byte ahead of an ITEM, and as the only one")
    static void eachByteAhead() {
        for (int b = 0; b <= 255; b++) {
            String alone = "" + (char) b;
            if (b == ' ') {
                reads(alone + "places 3;", 1, 3, 0, 0);
                reads("places 2;" + alone + "places 3;", 2, 3, 0, 0);
            } else {
                faults(alone, 0);
                faults(alone + "places 3;", 0);
                faults("places 2;" + alone + "places 3;", 9);
            }
        }
    }

    // ---- FAULTS

    @Says(promise = 8, text = "a word that is none")
    static void wordThatIsNone() {
        faults("place 3;", 0);
        faults("placess 3;", 0);
        faults("laces 3;", 0);
        faults("plaCes 3;", 0);
        faults("persons 0 1;", 0);
        faults("erran 0 0 0;", 0);
        faults("errande 0 0 0;", 0);
        faults("town", 0);
        faults("  hour 3;", 2);
        faults("places 3;  a", 11);
        faults("person 0 1;stubborn 0 1;", 11);
        // a word ends where no letter stands: this is one that is none, ahead of the byte that begins none
        faults("pers`on 0 1;", 0);
        faults("person`0 1;", 6);
        faults("person{0 1;", 6);
    }

    @Says(promise = 8, text = "a word that is none: each letter of each word counts")
    static void eachLetterOfEachWord() {
        String[] items = {"places 4;", "person 0 1;", "errand 0 0 0;"};
        for (int i = 0; i < items.length; i++) {
            String ahead = i == 2 ? "person 0 1;" : "";
            for (int at = 0; at < 6; at++) {
                char[] item = items[i].toCharArray();
                item[at] = item[at] == 'z' ? 'a' : (char) (item[at] + 1);
                faults(ahead + new String(item), ahead.length());
                faults(ahead + items[i].substring(0, at) + items[i].substring(at + 1), ahead.length());
            }
        }
    }

    @Says(promise = 8, text = "a KIND is told as its number; the first TOKEN that can not stand there: a word in place of a number")
    static void wordInPlaceOfANumber() {
        faults("person idle 3;", 7);
        faults("person 0 quick;", 9);
        faults("places places;", 7);
        faults("places;", 6);
        faults("places ;", 7);
        faults("person 0;", 8);
        faults("person ;", 7);
        faults("person 0 1;errand;", 17);
        faults("person 0 1;errand 0;", 19);
        faults("person 0 1;errand 0 0;", 21);
        faults("person 0 1;errand 0 0 a;", 22);
    }

    @Says(promise = 8, text = "ITEMS, each ended by ;")
    static void endOfAnItem() {
        faults("places 3 places 3;", 9);
        faults("places 3 3;", 9);
        faults("person 0 1 1;", 11);
        faults("person 0 1 person 0 1;", 11);
        faults("person 0 1;errand 0 0 0 errand 0 0 0;", 24);
        faults("person 0 1;errand 0 0 0 0;", 24);
        faults("places 3,", 8);
        faults(";", 0);
        faults("  ;", 2);
        faults("places 3;;", 9);
        faults("places 3; ;places 3;", 10);
        faults("3", 0);
        faults("places 3;4 places 3;", 9);
    }

    @Says(promise = 8, text = "places behind an errand")
    static void placesBehindAnErrand() {
        faults("person 0 1;errand 0 0 0;places 3;", 24);
        faults("person 0 1;errand 0 0 0;places 4;", 24);
        faults("person 0 1;errand 0 0 0;person 0 1; places", 36);
        reads("person 0 1;places 3;errand 0 0 0;", 3, 3, 1, 1);
        reads("person 0 1;errand 0 0 0;person 0 1;", 3, 4, 2, 1);
    }

    @Says(promise = 8, text = "a 10th person at its word")
    static void tenthPerson() {
        reads(NINE, 9, 4, 9, 0);
        faults(NINE + "person 0 1;", 99);
        faults(NINE + "  person", 101);
        faults(NINE + "person 9 99;", 99);
        faults(NINE + "places 3;person 0 1;", 108);
        faults(NINE + "errand 0 0 0;person 0 1;", 112);
        reads(NINE + "places 3;errand 8 0 0;", 11, 3, 9, 1);
    }

    @Says(promise = 8, text = "a 5th errand of one at p")
    static void fifthErrand() {
        reads("person 0 1;" + FOUR, 5, 4, 1, 4);
        faults("person 0 1;" + FOUR + "errand 0 0 0;", 70);
        faults("person 0 1;" + FOUR + "errand   0 9 99;", 72);
        faults("person 0 1;" + FOUR + "errand0", 69);
        faults("person 0 1;" + FOUR + "errand 00 0 0;", 70);
        faults("person 0 1;" + FOUR + "errand 1 0 0;", 70);
        faults("person 0 1;" + FOUR + "errand", 69);
        reads("person 0 1;person 0 1;" + FOUR + "errand 1 0 0;", 7, 4, 2, 5);
        faults("person 0 1;person 0 1;" + FOUR + "errand 1 0 0;errand 0 0 0;", 94);
    }

    @Says(promise = 8, text = "figures (1 is a number) .. a run of two figures or more (at its first one)")
    static void runsOfFigures() {
        faults("places 33;", 7);
        faults("places 03;", 7);
        faults("places 10;", 7);
        faults("places 3333;", 7);
        faults("places 33", 7);
        faults("places 3 33;", 9);
        faults("33", 0);
        faults("places 3;12", 9);
        faults("person 00 1;", 7);
        faults("person 0 11;", 9);
        faults("person 0 01;", 9);
        faults("person 0 1;errand 0 01 0;", 20);
        faults("person 0 1;errand 0 0 00;", 22);
    }

    @Says(promise = 8, text = "a number not as told, also one of PEOPLE that is not there yet")
    static void personNotThereYet() {
        faults("errand 0 0 0;", 7);
        faults("places 3;errand 0 0 0;", 16);
        faults("person 0 1;errand 1 0 0;person 0 1;", 18);
        faults("person 0 1;errand 9 0 0;", 18);
        faults(NINE + "errand 9 0 0;", 106);
        reads("person 0 1;person 0 1;errand 1 0 0;", 3, 4, 2, 1);
        reads(NINE + "errand 8 0 0;", 10, 4, 9, 1);
    }

    @Says(promise = 8, text = "PLACES (4, if not told): an ERRAND at one that is not there is a number not as told")
    static void placeNotThere() {
        reads("person 0 1;errand 0 3 0;", 2, 4, 1, 1);
        faults("person 0 1;errand 0 4 0;", 20);
        faults("person 0 1;errand 0 5 0;places 6;", 20);
        faults("places 6;places 2;person 0 1;errand 0 2 0;", 38);
        reads("places 2;places 6;person 0 1;errand 0 5 0;", 4, 6, 1, 1);
    }

    @Says(promise = 8, text = "a byte that begins none, too")
    static void byteThatBeginsNone() {
        faults("\u0000places 3;", 0);
        faults("places\t3;", 6);
        faults("places 3;\n", 9);
        faults("places -3;", 7);
        faults("person 0 1;errand 0 0 -1;", 22);
        faults("places 3\u00bb", 8);
        faults("Places 3;", 0);
        faults("places 3;\u00ff", 9);
    }

    @Says(promise = 8, text = "FAULT: the place of the first byte of the first TOKEN that can not stand there")
    static void firstOfMoreFaults() {
        faults("places 0;town;", 7);
        faults("person 9 0;", 7);
        faults("person 0 0", 9);
        faults("person 0 1;errand 1 4 10;", 18);
        faults("person 0 1;errand 0 4 10;", 20);
        faults("a b c", 0);
    }

    @Says(promise = 8, text = "the TEXT's length, if it ends too early")
    static void textThatEndsTooEarly() {
        String text = " places 5 ;person 3 7;  person0 9 ; errand 1 4 0;errand 0 0 9;";
        for (int length = 0; length <= text.length(); length++) {
            String part = text.substring(0, length);
            int wordAt = cutWordAt(text, length);
            if (wordAt >= 0) {
                faults(part, wordAt);
            } else if (part.isBlank() || part.stripTrailing().endsWith(";")) {
                C.due("read() of '" + part + "'", Towns.read(new TiedThrees(), part), part.chars().filter(b -> b == ';').count());
            } else {
                faults(part, length);
                faults(part + "   ", length + 3);
            }
        }
    }

    /** Where the word begins that is cut in two if the text ends there; -1: none is. */
    private static int cutWordAt(String text, int length) {
        if (length == 0 || length == text.length() || !isLetter(text.charAt(length - 1)) || !isLetter(text.charAt(length))) {
            return -1;
        }
        int at = length;
        while (at > 0 && isLetter(text.charAt(at - 1))) {
            at--;
        }
        return at;
    }

    private static boolean isLetter(char sign) {
        return sign >= 'a' && sign <= 'z';
    }

    // ---- what a read leaves

    @Says(promise = 8, text = "-10 less the FAULT: all stays")
    static void faultBehindSoundItems() {
        faults("places 2;person 4 9;errand 0 1 9;person 1 1;x", 44);
        faults("places 2;person 4 9;errand 0 1 9", 32);
        NEW.behind("a text", x -> Towns.type(x, "person 0 1;person 5 1;")).asked("read()", TiedThrees::read, -28);
        TiedThrees x = new TiedThrees();
        C.due("read() with a FAULT", Towns.read(x, "places 6;person 0 1;errand"), -36);
        C.due("read() then does not go on from there", Towns.read(x, "errand 0 0 0;"), -17);
        C.due("count(0)", x.count(0), 4);
    }

    @Says(promise = 8, text = "A TOWN that is read takes the place of PLACES (4, if not told), PEOPLE, ERRANDS")
    static void townTakesThePlace() {
        TiedThrees x = FULL.one();
        C.due("read()", Towns.read(x, "person 1 2;errand 0 3 4;"), 2);
        countsAre(x, 4, 1, 1, 0, 0, 24);
        C.due("person()", x.person(0, 1), 1);
        C.due("errand()", x.errand(0, 3, 4), 1);
        C.due("read() without PEOPLE", Towns.read(x, "places 2;"), 1);
        countsAre(x, 2, 0, 0, 0, 0, 9);
        C.due("read() without ERRANDS", Towns.read(x, "person 0 1;"), 1);
        countsAre(x, 4, 1, 0, 0, 0, 11);
        C.due("drop(0)", x.drop(0), TiedThrees.NO);
    }

    @Says(promise = 8, text = "what an earlier town has is not there for the text: PEOPLE, PLACES, ERRANDS of it")
    static void earlierTownIsNotThere() {
        TiedThrees x = FULL.one();
        C.due("an errand of one of the earlier town", Towns.read(x, "errand 0 0 0;"), -17);
        C.due("a place of the earlier town", Towns.read(x, "person 0 1;errand 0 4 0;"), -30);
        C.due("places behind errands of the earlier town", Towns.read(x, "places 3;" + NINE), 10);
        C.due("four errands behind four of the earlier one", Towns.read(x, "person 0 1;" + FOUR), 5);
        C.due("and again", x.read(), 5);
        countsAre(x, 4, 1, 4, 0, 0, 63);
    }

    @Says(promise = 8, text = "no WEEKS, SIGHTS are told then")
    static void weeksAndSightsGo() {
        TiedThrees x = FULL.one();
        Towns.read(x, "person 0 1;person 0 1;person 0 1;");
        C.due("loose()", x.loose(), 0);
        C.due("blind()", x.blind(), 0);
        C.due("which(0, NONE)", x.which(0, TiedThrees.NONE), 1);
        C.due("knows(0, 1)", x.knows(0, 1), TiedThrees.BAD);
        C.due("week()", x.week(7, 0, 0), 0);
        C.due("sight()", x.sight(0, 0, 0), 0);
    }

    @Says(promise = 8, text = "THE TOWN is read (THE TEXT stays as it is); what is not told to go stays")
    static void readLeavesTheRest() {
        TiedThrees x = FULL.one();
        TiedThrees y = FULL.one();
        x.places(9);
        C.due("read()", x.read(), 20);
        C.due("count(5)", x.count(5), 250);
        C.due("part(0)", x.part(0), y.part(0));
        C.due("part(1)", x.part(1), y.part(1));
        C.due("status(0)", x.status(0), 1);
        for (int set = 1; set <= 7; set++) {
            C.due("gain(" + set + ", 0)", x.gain(set, 0), set == 7 ? 1 : 99 - set);
        }
        C.due("read() of the same TEXT", x.read(), 20);
        for (int image = 0; image < 2; image++) {
            C.due("from(" + image + ")", x.from(image), y.from(image));
            C.due("digest()", x.digest(), y.digest());
        }
        C.due("clear()", x.clear(), 250);
    }
}
