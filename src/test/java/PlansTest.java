import java.util.NoSuchElementException;

/** Promises 23 to 26: whether a card can be planned, its best plan, and weaving by plans. */
public final class PlansTest {
    private static final Check CHECK = new Check();

    public static void main(String[] args) {
        plansWithoutAnyChoice();
        plansAFreeCard();
        plansToAndFro();
        plansFroAndTo();
        plansAgainstAllRows();
        refuses();
        weaves();
        weavesToTheEnd();
        CHECK.end();
    }

    /** The front is to show 1 in the first pick, the back 3, which only one hole of this card does. */
    private static void plansWithoutAnyChoice() {
        Bothfaces x = new Bothfaces();
        x.card(0, 1, 2, 3, 's');
        x.setGround(false, 3);
        x.setGround(true, 1);
        CHECK.yes("23: one pick", x.canPlan(0, 0));
        CHECK.same("24: one turn", x.reversals(0, 0), 0);
        CHECK.same("25: back", x.planAt(0, 0, 0), 'b');
        CHECK.no("23: two picks", x.canPlan(0, 1));
        CHECK.fails("24: two picks", NoSuchElementException.class, () -> x.reversals(0, 1));
        CHECK.fails("25: two picks", NoSuchElementException.class, () -> x.planAt(0, 1, 0));
        x.slip(0, 2);
        CHECK.same("25: from where it stands now", x.planAt(0, 0, 0), 'f');
        x.slip(0, 1);
        CHECK.no("23: it stands there already, but must turn", x.canPlan(0, 0));
        x.turn(0, true);
        x.pick();
        CHECK.yes("23: of the pick that is put in next", x.canPlan(0, 1));
        x.setGround(true, 0);
        CHECK.no("23: the back does not show it", x.canPlan(0, 1));
    }

    private static void plansAFreeCard() {
        Bothfaces x = new Bothfaces();
        x.card(0, 0, 0, 0, 'z');
        for (int last = 0; last < 40; last++) {
            CHECK.yes("23: up to " + last, x.canPlan(0, last));
            CHECK.same("24: up to " + last, x.reversals(0, last), 0);
            CHECK.same("25: up to " + last, x.planAt(0, last, last), 'f');
        }
        x.pick();
        CHECK.same("25: the last one of 39", x.planAt(0, 39, 38), 'f');
        CHECK.fails("25: one of 39 too many", NoSuchElementException.class, () -> x.planAt(0, 39, 39));
    }

    /** From the hole 0 the first pick is to show 0 and 1: hole 1 or 3; then 1 and 0. */
    private static void plansToAndFro() {
        Bothfaces x = new Bothfaces();
        for (int i = 0; i < 5; i++) {
            x.card(0, 0, 1, 1, 's');
        }
        x.setGround(true, 1);
        CHECK.same("25: forward to the hole 1", x.planAt(0, 0, 0), 'f');
        CHECK.same("24: forward and back", x.reversals(0, 1), 1);
        CHECK.same("25: and back", x.planAt(0, 1, 1), 'b');
        CHECK.same("24: to and fro", x.reversals(0, 39), 39);
        for (int i = 0; i < 40; i++) {
            CHECK.same("25: to and fro", x.planAt(0, 39, i), i % 2 == 0 ? 'f' : 'b');
        }
    }

    private static void plansFroAndTo() {
        Bothfaces x = new Bothfaces();
        x.card(0, 1, 1, 0, 'z');
        x.setGround(true, 1);
        CHECK.same("24: fro and to", x.reversals(0, 39), 39);
        for (int i = 0; i < 40; i++) {
            CHECK.same("25: fro and to", x.planAt(0, 39, i), i % 2 == 0 ? 'b' : 'f');
        }
    }

    private static int seed = 17;

    private static int below(int bound) {
        seed = seed * 1103515245 + 12345;
        return ((seed >> 8) & 0xffff) % bound;
    }

    /** Every row of up to nine turns is tried by itself, for cards and mottoes of few colours. */
    private static void plansAgainstAllRows() {
        int found = 0;
        int missing = 0;
        for (int round = 0; round < 1500; round++) {
            Bothfaces x = new Bothfaces();
            for (int i = 0; i < 5; i++) {
                x.card(below(2), below(2), below(2), below(2), below(2) == 0 ? 's' : 'z');
            }
            x.type('a');
            x.type('b');
            if (below(2) == 0) {
                layWhatCanBeWoven(x);
            } else {
                drawAnything(x);
            }
            int picks = below(2);
            for (int i = 0; i < picks; i++) {
                x.pick();
            }
            int last = picks + below(9);
            for (int card = 0; card < 5; card++) {
                if (checkAgainstAllRows(x, card, picks, last)) {
                    found++;
                } else {
                    missing++;
                }
            }
        }
        CHECK.yes("plans were found and missing", found > 500 && missing > 500);
    }

    private static void drawAnything(Bothfaces x) {
        for (int row = 0; row < 5; row++) {
            x.draw('a', row, below(8));
            x.draw('b', row, below(8));
        }
        x.motto(false, 0, 0);
        x.motto(true, 0, 0);
    }

    /** Only one colour is wanted on the back, and letters that repeat on the front: often there are plans. */
    private static void layWhatCanBeWoven(Bothfaces x) {
        int[] repeating = {0, 7, 5, 2, 3};
        for (int row = 0; row < 5; row++) {
            x.draw('a', row, repeating[below(5)]);
            x.draw('b', row, repeating[below(5)]);
        }
        x.motto(false, 0, below(3));
        x.setGround(true, below(2));
    }

    private static boolean checkAgainstAllRows(Bothfaces x, int card, int picks, int last) {
        int turns = last - picks + 1;
        int best = -1;
        int fewest = 99;
        for (int row = 0; row < 1 << turns; row++) {
            int reversals = Integer.bitCount((row ^ (row >> 1)) & ((1 << (turns - 1)) - 1));
            if (reversals < fewest && showsAll(x, card, picks, turns, row)) {
                fewest = reversals;
                best = row;
            }
        }
        boolean got = x.canPlan(card, last);
        CHECK.same("23: as all rows say", got ? 1 : 0, best >= 0 ? 1 : 0);
        if (best < 0 || !got) {
            return best >= 0;
        }
        CHECK.same("24: as all rows say", x.reversals(card, last), fewest);
        for (int i = 0; i < turns; i++) {
            boolean isBack = ((best >> (turns - 1 - i)) & 1) == 1;
            CHECK.same("25: as all rows say", x.planAt(card, last, i), isBack ? 'b' : 'f');
        }
        return true;
    }

    /** The holes' colours are asked of a loom of its own, so that this one stays as it is. */
    private static boolean showsAll(Bothfaces x, int card, int picks, int turns, int row) {
        int stand = x.at(card);
        int[] colours = COLOURS_OF.of(x, card);
        for (int i = 0; i < turns; i++) {
            boolean isBack = ((row >> (turns - 1 - i)) & 1) == 1;
            stand = (stand + (isBack ? 3 : 1)) % 4;
            if (colours[stand] != x.wanted(card, picks + i, false)
                    || colours[(stand + 2) % 4] != x.wanted(card, picks + i, true)) {
                return false;
            }
        }
        return true;
    }

    /** Remembers the colours of the card asked last, as it is asked for each of all rows. */
    private static final class Colours {
        private Bothfaces loom;
        private int card = -1;
        private final int[] colours = new int[4];

        private int[] of(Bothfaces x, int wantedCard) {
            if (loom != x || card != wantedCard) {
                loom = x;
                card = wantedCard;
                for (int i = 0; i < 4; i++) {
                    colours[x.at(card)] = shownBy(x);
                    x.slip(card, 1);
                }
            }
            return colours;
        }

        private int shownBy(Bothfaces x) {
            x.pick();
            int shown = x.colour(card, x.picks() - 1, false);
            int[] stands = new int[5];
            for (int i = 0; i < 5; i++) {
                stands[i] = x.at(i);
            }
            x.unweave();
            for (int i = 0; i < 5; i++) {
                while (x.at(i) != stands[i]) {
                    x.slip(i, 1);
                }
            }
            return shown;
        }
    }

    private static final Colours COLOURS_OF = new Colours();

    private static void refuses() {
        Bothfaces x = new Bothfaces();
        CHECK.fails("23: without cards", IndexOutOfBoundsException.class, () -> x.canPlan(0, 0));
        x.card(0, 0, 0, 0, 's');
        int[] noCard = {-1, 1, Integer.MIN_VALUE, Integer.MAX_VALUE};
        for (int c : noCard) {
            CHECK.fails("23: card " + c, IndexOutOfBoundsException.class, () -> x.canPlan(c, 40));
            CHECK.fails("24: card " + c, IndexOutOfBoundsException.class, () -> x.reversals(c, 40));
            CHECK.fails("25: card " + c, IndexOutOfBoundsException.class, () -> x.planAt(c, 40, -1));
        }
        int[] noIndex = {-1, 4, Integer.MIN_VALUE, Integer.MAX_VALUE};
        for (int i : noIndex) {
            CHECK.fails("25: index " + i, NoSuchElementException.class, () -> x.planAt(0, 3, i));
        }
        x.pick();
        x.pick();
        int[] noLast = {-1, 0, 1, 40, Integer.MIN_VALUE, Integer.MAX_VALUE};
        for (int last : noLast) {
            CHECK.fails("23: last " + last, IllegalArgumentException.class, () -> x.canPlan(0, last));
            CHECK.fails("24: last " + last, IllegalArgumentException.class, () -> x.reversals(0, last));
            CHECK.fails("25: last " + last, IllegalArgumentException.class, () -> x.planAt(0, last, -1));
            CHECK.fails("26: last " + last, IllegalArgumentException.class, () -> x.weave(last));
        }
        CHECK.same("26: nothing was woven", x.picks(), 2);
        CHECK.yes("23: the pick put in next", x.canPlan(0, 2));
    }

    private static void weaves() {
        Bothfaces x = new Bothfaces();
        CHECK.fails("26: without cards", UnsupportedOperationException.class, () -> x.weave(0));
        CHECK.fails("26: without cards, and 40", IllegalArgumentException.class, () -> x.weave(40));
        x.card(1, 0, 1, 0, 's');
        x.card(0, 1, 2, 3, 's');
        x.card(0, 1, 2, 3, 'z');
        x.card(3, 0, 5, 2, 'z');
        x.setPack(1, 3);
        x.setGround(true, 2);
        CHECK.same("26: planned", x.weave(0), 1);
        CHECK.same("26: is put in", x.picks(), 1);
        int[] stands = {1, 1, 1, 1};
        int[] twists = {1, 1, -1, -1};
        for (int i = 0; i < 4; i++) {
            CHECK.same("26: stand of " + i, x.at(i), stands[i]);
            CHECK.same("26: twist of " + i, x.twist(i), twists[i]);
        }
        CHECK.same("26: shows", x.colour(3, 0, false), 0);
        CHECK.same("26: planned then, back to the hole 0", x.weave(1), 2);
        int[] standsThen = {2, 0, 0, 2};
        int[] twistsThen = {2, 0, 0, -2};
        for (int i = 0; i < 4; i++) {
            CHECK.same("26: stand then of " + i, x.at(i), standsThen[i]);
            CHECK.same("26: twist then of " + i, x.twist(i), twistsThen[i]);
        }
        CHECK.same("26: taken out", x.unweave(), 1);
        CHECK.same("26: stands as before", x.at(1), 1);
    }

    /** What is planned up to a pick is woven up to it without a fault. */
    private static void weavesToTheEnd() {
        Bothfaces x = new Bothfaces();
        for (int i = 0; i < 6; i++) {
            x.card(0, 0, 1, 1, i % 2 == 0 ? 's' : 'z');
        }
        x.type('o');
        int[] o = {2, 5, 2, 7, 0};
        for (int row = 0; row < 5; row++) {
            x.draw('o', row, o[row]);
        }
        x.motto(false, 0, 5);
        x.setInk(true, 0);
        x.setGround(true, 1);
        x.motto(true, 0, 5);
        for (int pick = 0; pick < 40; pick++) {
            int due = 0;
            for (int card = 0; card < 6; card++) {
                due += x.canPlan(card, 39) ? 1 : 0;
            }
            CHECK.same("26: as many as can be planned", x.weave(39), due);
        }
        CHECK.fails("26: 41 picks", IllegalArgumentException.class, () -> x.weave(40));
        CHECK.fails("26: 40 picks", IllegalArgumentException.class, () -> x.weave(39));
        CHECK.same("26: no fault of a planned card", x.faultsOf(5), 0);
    }
}
