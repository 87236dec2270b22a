/** Promises 15 to 22: letters, mottoes, ink and ground, what is wanted, and pairs. */
public final class LettersTest {
    private static final Check CHECK = new Check();

    public static void main(String[] args) {
        draws();
        types();
        laysMottoes();
        refusesMottoes();
        colours();
        wantsOnTheFront();
        wantsOnTheBack();
        wantsNoInkWithoutAMotto();
        lettersAreAsDrawnByNow();
        pairs();
        CHECK.end();
    }

    private static Bothfaces loom(int cards) {
        Bothfaces x = new Bothfaces();
        for (int i = 0; i < cards; i++) {
            x.card(0, 1, 2, 3, 's');
        }
        return x;
    }

    private static void draws() {
        Bothfaces x = new Bothfaces();
        for (char c = 'a'; c <= 'z'; c++) {
            for (int row = 0; row < 5; row++) {
                CHECK.same("15: at first", x.draw(c, row, (c + row) & 7), 0);
            }
        }
        for (char c = 'a'; c <= 'z'; c++) {
            for (int row = 0; row < 5; row++) {
                CHECK.same("15: before", x.draw(c, row, 7), (c + row) & 7);
            }
        }
        char[] noLetter = {'`', '{', 'A', 'Z', '0', (char) 0, (char) 65535};
        for (char c : noLetter) {
            CHECK.fails("15: letter " + (int) c, IllegalArgumentException.class, () -> x.draw(c, 0, 0));
            CHECK.fails("16: letter " + (int) c, IllegalArgumentException.class, () -> x.type(c));
        }
        int[] noRow = {-1, 5, Integer.MIN_VALUE, Integer.MAX_VALUE};
        int[] noBits = {-1, 8, Integer.MIN_VALUE, Integer.MAX_VALUE};
        for (int i = 0; i < 4; i++) {
            int row = noRow[i];
            int bits = noBits[i];
            CHECK.fails("15: row " + row, IllegalArgumentException.class, () -> x.draw('a', row, 0));
            CHECK.fails("15: bits " + bits, IllegalArgumentException.class, () -> x.draw('a', 0, bits));
        }
        CHECK.same("15: nothing was changed", x.draw('a', 0, 0), 7);
    }

    private static void types() {
        Bothfaces x = new Bothfaces();
        CHECK.same("17: nothing typed", x.wipe(), 0);
        for (int i = 1; i <= 8; i++) {
            CHECK.same("16: how many", x.type((char) ('a' + i)), i);
        }
        CHECK.fails("16: a ninth", IllegalStateException.class, () -> x.type('a'));
        CHECK.fails("16: a wrong ninth", IllegalArgumentException.class, () -> x.type('A'));
        CHECK.same("17: how many there were", x.wipe(), 8);
        CHECK.same("17: none any more", x.wipe(), 0);
        CHECK.same("16: from the start", x.type('z'), 1);
    }

    private static void laysMottoes() {
        Bothfaces x = loom(16);
        for (int n = 1; n <= 8; n++) {
            x.type('a');
            CHECK.same("18: picks of " + n, x.motto(n % 2 == 0, 11, 0), 4 * n - 1);
            int last = 40 - (4 * n - 1);
            CHECK.same("18: up to the pick 39", x.motto(false, 0, last), 4 * n - 1);
            CHECK.fails("18: beyond the pick 39", UnsupportedOperationException.class,
                    () -> x.motto(false, 0, last + 1));
        }
        CHECK.same("18: what is typed stays so", x.wipe(), 8);
    }

    private static void refusesMottoes() {
        Bothfaces x = loom(6);
        CHECK.fails("18: nothing typed", UnsupportedOperationException.class, () -> x.motto(false, 0, 0));
        x.type('q');
        for (int row = 0; row < 5; row++) {
            x.draw('q', row, 7);
        }
        CHECK.same("18: from the card 1", x.motto(false, 1, 3), 3);
        CHECK.fails("18: from the card 2", UnsupportedOperationException.class, () -> x.motto(false, 2, 0));
        CHECK.fails("18: card 6", IndexOutOfBoundsException.class, () -> x.motto(false, 6, 0));
        CHECK.fails("18: card -1", IndexOutOfBoundsException.class, () -> x.motto(false, -1, 0));
        CHECK.fails("18: pick -1", IllegalArgumentException.class, () -> x.motto(false, 0, -1));
        CHECK.fails("18: pick 40", IllegalArgumentException.class, () -> x.motto(false, 0, 40));
        CHECK.fails("18: greatest pick", IllegalArgumentException.class,
                () -> x.motto(false, 0, Integer.MAX_VALUE));
        CHECK.fails("18: all wrong", IndexOutOfBoundsException.class, () -> x.motto(false, 6, 40));
        CHECK.fails("18: pick and fit wrong", IllegalArgumentException.class, () -> x.motto(false, 2, 40));
        CHECK.fails("18: beyond", UnsupportedOperationException.class, () -> x.motto(false, 0, 38));
        CHECK.same("18: the motto still lies there", x.wanted(1, 3, false), 1);
        CHECK.same("18: and not there", x.wanted(0, 3, false), 0);
        CHECK.same("18: another one", x.motto(false, 0, 20), 3);
        CHECK.same("18: in place of the first", x.wanted(1, 3, false), 0);
        CHECK.same("18: the other one lies there", x.wanted(0, 20, false), 1);
        CHECK.same("18: the back has none", x.wanted(0, 20, true), 0);
        Bothfaces four = loom(4);
        four.type('a');
        CHECK.fails("18: four cards", UnsupportedOperationException.class, () -> four.motto(false, 0, 0));
    }

    private static void colours() {
        Bothfaces x = loom(5);
        x.type('a');
        x.draw('a', 0, 4);
        x.motto(false, 0, 0);
        x.motto(true, 0, 0);
        CHECK.same("19: first ink of the front", x.setInk(false, 5), 1);
        CHECK.same("19: first ink of the back", x.setInk(true, 6), 1);
        CHECK.same("20: first ground of the front", x.setGround(false, 7), 0);
        CHECK.same("20: first ground of the back", x.setGround(true, 3), 0);
        CHECK.same("21: ink of the front", x.wanted(0, 0, false), 5);
        CHECK.same("21: ground of the front", x.wanted(0, 1, false), 7);
        CHECK.same("21: ink of the back", x.wanted(0, 2, true), 6);
        CHECK.same("21: ground of the back", x.wanted(0, 1, true), 3);
        int[] wrong = {-1, 8, Integer.MIN_VALUE, Integer.MAX_VALUE};
        for (int w : wrong) {
            CHECK.fails("19: colour " + w, IllegalArgumentException.class, () -> x.setInk(false, w));
            CHECK.fails("20: colour " + w, IllegalArgumentException.class, () -> x.setGround(true, w));
        }
        CHECK.same("19: before", x.setInk(false, 0), 5);
        CHECK.same("19: before, back", x.setInk(true, 7), 6);
        CHECK.same("20: before", x.setGround(false, 0), 7);
        CHECK.same("20: before, back", x.setGround(true, 7), 3);
        CHECK.fails("21: card 5", IndexOutOfBoundsException.class, () -> x.wanted(5, 0, false));
        CHECK.fails("21: card -1", IndexOutOfBoundsException.class, () -> x.wanted(-1, 0, false));
        CHECK.fails("21: pick 40", IllegalArgumentException.class, () -> x.wanted(0, 40, false));
        CHECK.fails("21: pick -1", IllegalArgumentException.class, () -> x.wanted(0, -1, true));
        CHECK.fails("21: both wrong", IndexOutOfBoundsException.class, () -> x.wanted(5, 40, true));
    }

    /** The letters b and d, which are drawn unlike in every row and lie over seven picks. */
    private static Bothfaces withTwoLetters() {
        Bothfaces x = loom(7);
        int[] b = {4, 6, 5, 3, 1};
        int[] d = {1, 2, 4, 7, 6};
        for (int row = 0; row < 5; row++) {
            x.draw('b', row, b[row]);
            x.draw('d', row, d[row]);
        }
        x.type('b');
        x.type('d');
        return x;
    }

    private static final String[] ROWS = {"100.001", "110.010", "101.100", "011.111", "001.110"};

    private static void wantsOnTheFront() {
        Bothfaces x = withTwoLetters();
        x.motto(false, 1, 4);
        seesRows(x, false, 1, 4, false);
    }

    private static void wantsOnTheBack() {
        Bothfaces x = withTwoLetters();
        x.motto(true, 2, 9);
        seesRows(x, true, 2, 9, true);
        for (int card = 0; card < 7; card++) {
            CHECK.same("21: the front has none", x.wanted(card, 9, false), 0);
        }
    }

    private static void seesRows(Bothfaces x, boolean isBack, int firstCard, int firstPick, boolean isTurned) {
        for (int card = 0; card < 7; card++) {
            for (int pick = 0; pick < 40; pick++) {
                int row = card - firstCard;
                int place = pick - firstPick;
                boolean isInk = false;
                if (row >= 0 && row < 5 && place >= 0 && place < 7) {
                    isInk = ROWS[row].charAt(isTurned ? 6 - place : place) == '1';
                }
                CHECK.same("21: card " + card + ", pick " + pick, x.wanted(card, pick, isBack), isInk ? 1 : 0);
            }
        }
    }

    private static void wantsNoInkWithoutAMotto() {
        Bothfaces x = loom(5);
        for (int row = 0; row < 5; row++) {
            x.draw('a', row, 7);
        }
        x.type('a');
        for (int pick = 0; pick < 40; pick++) {
            CHECK.same("21: front", x.wanted(0, pick, false), 0);
            CHECK.same("21: back", x.wanted(4, pick, true), 0);
        }
    }

    private static void lettersAreAsDrawnByNow() {
        Bothfaces x = loom(5);
        x.type('m');
        x.motto(false, 0, 0);
        CHECK.same("21: not drawn yet", x.wanted(2, 1, false), 0);
        x.draw('m', 2, 2);
        CHECK.same("21: drawn by now", x.wanted(2, 1, false), 1);
        x.wipe();
        x.type('n');
        CHECK.same("18: the motto stays what was typed", x.wanted(2, 1, false), 1);
        x.draw('n', 0, 7);
        CHECK.same("18: the new letter is not laid", x.wanted(0, 0, false), 0);
        x.draw('m', 2, 5);
        CHECK.same("21: drawn anew", x.wanted(2, 1, false), 0);
        CHECK.same("21: drawn anew too", x.wanted(2, 2, false), 1);
    }

    private static void pairs() {
        Bothfaces x = new Bothfaces();
        CHECK.fails("22: without cards", IndexOutOfBoundsException.class, () -> x.pairs(0));
        x.card(5, 5, 5, 5, 's');
        x.card(1, 2, 1, 2, 's');
        x.card(0, 1, 1, 0, 'z');
        x.card(0, 0, 0, 1, 's');
        x.card(0, 1, 2, 3, 's');
        x.card(0, 1, 2, 1, 's');
        x.card(0, 0, 1, 0, 's');
        int[] due = {1, 2, 2, 3, 4, 3, 3};
        for (int i = 0; i < due.length; i++) {
            CHECK.same("22: card " + i, x.pairs(i), due[i]);
        }
        CHECK.fails("22: card 7", IndexOutOfBoundsException.class, () -> x.pairs(7));
        CHECK.fails("22: card -1", IndexOutOfBoundsException.class, () -> x.pairs(-1));
    }
}
