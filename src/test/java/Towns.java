/** Objects in the states that the tests of edges begin from: nothing there, something, all that there is room for. */
final class Towns {
    /** A text of 250 bytes, all that THE TEXT has room for: 9 PEOPLE, 11 ERRANDS, 8 blanks. */
    static final String LONGEST = "person 0 1;".repeat(9) + "errand 8 3 9;".repeat(4) + "errand 0 0 0;".repeat(4)
        + "errand 4 1 1;".repeat(3) + " ".repeat(8);

    private Towns() {
    }

    static void nothing(TiedThrees x) {
    }

    /** Three PEOPLE and a little of all else; IMAGE 0 is kept, and is not what there is. */
    static void some(TiedThrees x) {
        x.image(0);
        x.person(0, 5);
        x.person(1, 6);
        x.person(3, 4);
        x.errand(0, 1, 9);
        x.errand(0, 2, 3);
        x.errand(1, 3, 2);
        x.week(7, 0, 0);
        x.sight(1, 1, 0);
        x.gain(1, 10);
        x.gain(6, 60);
        x.gain(7, 75);
        x.fair(0);
        type(x, "places 2;person 0 1;");
    }

    /** As much of all as there is room for; both IMAGES are kept, and are not what there is. */
    static void full(TiedThrees x) {
        x.places(6);
        people(x, 9);
        x.image(0);
        for (int set = 1; set <= 7; set++) {
            x.gain(set, 99 - set);
        }
        for (int e = 0; e < 36; e++) {
            x.errand(e % 9, (e + e / 9) % 6, 9 - e % 10);
        }
        x.image(1);
        x.gain(7, 1);
        for (int i = 0; i < 6; i++) {
            x.week(7 << i % 3, 0, i == 5 ? 448 : 0);
        }
        for (int i = 0; i < 5; i++) {
            x.sight(8 - i, i, 2 * i);
        }
        x.fair(2);
        type(x, LONGEST);
    }

    /** So many PEOPLE, of all KINDS and PACES in turn. */
    static void people(TiedThrees x, int many) {
        for (int i = 0; i < many; i++) {
            x.person(i % 5, 1 + i % 9);
        }
    }

    /** An object with so many PEOPLE of KIND 0 and PACE 1. */
    static TiedThrees plain(int people) {
        TiedThrees x = new TiedThrees();
        for (int i = 0; i < people; i++) {
            x.person(0, 1);
        }
        return x;
    }

    /** Types a text, eight bytes a call, so that a long one leaves room for other calls. */
    static void type(TiedThrees x, String text) {
        for (int i = 0; i < text.length(); i += 8) {
            String part = text.substring(i, Math.min(text.length(), i + 8));
            long v = 0;
            for (int j = 0; j < part.length(); j++) {
                v = v << 8 | part.charAt(j);
            }
            x.type(v, part.length());
        }
    }

    /** Types a text into an empty TEXT and reads it. */
    static int read(TiedThrees x, String text) {
        x.clear();
        type(x, text);
        return x.read();
    }
}
