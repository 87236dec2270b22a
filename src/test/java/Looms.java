/** Looms that tests begin with. */
final class Looms {
    static Bothfaces withCards(int cards) {
        Bothfaces x = new Bothfaces();
        for (int i = 0; i < cards; i++) {
            x.card(0, 1, 2, 3, 's');
        }
        return x;
    }

    /** Cards of one colour, so that all that stands or turns shows the same. */
    static Bothfaces plain(int cards) {
        Bothfaces x = new Bothfaces();
        for (int i = 0; i < cards; i++) {
            x.card(0, 0, 0, 0, 's');
        }
        return x;
    }

    static Bothfaces of(int one, int two, int three, int four) {
        Bothfaces x = new Bothfaces();
        x.card(one, two, three, four, 's');
        return x;
    }

    /** Puts picks in, the packs being as they are. */
    static Bothfaces standing(Bothfaces x, int picks) {
        for (int i = 0; i < picks; i++) {
            x.pick();
        }
        return x;
    }

    /** Puts picks in, the pack 0 turned forward ahead of each. */
    static Bothfaces turning(Bothfaces x, int picks) {
        for (int i = 0; i < picks; i++) {
            x.turn(0, true);
            x.pick();
        }
        return x;
    }

    /** Types the letters of a text. */
    static Bothfaces typing(Bothfaces x, String text) {
        for (int i = 0; i < text.length(); i++) {
            x.type(text.charAt(i));
        }
        return x;
    }

    /** Draws a letter by its rows, from the row 0 on. */
    static void draw(Bothfaces x, char letter, int... rows) {
        for (int row = 0; row < rows.length; row++) {
            x.draw(letter, row, rows[row]);
        }
    }
}
