/** Texts of towns, most of them sound, some with one thing that can not stand. */
final class TownTexts {
    /** A number from 0 to n less 1. */
    interface Draw {
        int below(int n);
    }

    private final Draw draw;
    private final StringBuilder text = new StringBuilder();
    private int places = 4;
    private int people;

    private TownTexts(Draw draw) {
        this.draw = draw;
    }

    static String make(Draw draw) {
        TownTexts made = new TownTexts(draw);
        made.fill();
        return made.spoiled();
    }

    private void fill() {
        blanks(0);
        int wish = draw.below(13);
        while (draw.below(3) == 0) {
            places = 1 + draw.below(6);
            item("places", places);
        }
        for (int i = 0; i < wish; i++) {
            item("person", draw.below(5), 1 + draw.below(9));
            people++;
            if (draw.below(20) == 0) {
                places = 1 + draw.below(6);
                item("places", places);
            }
        }
        int errands = draw.below(9);
        for (int i = 0; i < errands && people > 0; i++) {
            int p = draw.below(3) == 0 ? 0 : draw.below(Math.min(people, 9));
            item("errand", p, draw.below(places), draw.below(10));
        }
    }

    private void item(String word, int... numbers) {
        text.append(word);
        for (int i = 0; i < numbers.length; i++) {
            blanks(i == 0 ? 0 : 1);
            text.append(numbers[i]);
        }
        blanks(0);
        text.append(';');
        blanks(0);
    }

    private void blanks(int least) {
        int many = least + (draw.below(4) == 0 ? draw.below(2) : 0);
        text.append(" ".repeat(many));
    }

    private String spoiled() {
        if (text.length() > 250) {
            text.setLength(250);
        }
        if (text.length() > 0 && draw.below(2) == 0) {
            int at = draw.below(text.length());
            String signs = "0123456789;;;  abepPz{`/:!\u0000\u00ff\n\t";
            char sign = signs.charAt(draw.below(signs.length()));
            switch (draw.below(6)) {
                case 0 -> text.setLength(at);
                case 1 -> text.deleteCharAt(at);
                case 2 -> text.insert(at, sign);
                case 3 -> text.insert(at, "person ");
                case 4 -> text.insert(text.lastIndexOf(";", at) + 1, "places 2;");
                default -> text.setCharAt(at, sign);
            }
        }
        return text.length() > 250 ? text.substring(0, 250) : text.toString();
    }
}
