/** Promises 1 to 8: a new object, cards, packs, turns, twist and slips. */
public final class CardsTest {
    private static final Check CHECK = new Check();

    public static void main(String[] args) {
        newObject();
        addsCards();
        refusesCards();
        packs();
        turns();
        twists();
        mostTwist();
        slips();
        CHECK.end();
    }

    private static void newObject() {
        Bothfaces x = new Bothfaces();
        CHECK.same("1: picks", x.picks(), 0);
        CHECK.same("1: kinds", x.kinds(), 0);
        CHECK.same("1: mostTwist", x.mostTwist(), 0);
        CHECK.same("1: wipe", x.wipe(), 0);
        CHECK.same("1: brings", x.brings(), 0);
        CHECK.same("1: bringsMost", x.bringsMost(), 0);
        CHECK.same("1: faults of the front", x.faults(false), 0);
        CHECK.same("1: faults of the back", x.faults(true), 0);
        CHECK.same("1: yarn", x.yarn(0), 0);
        CHECK.same("1: checksum", x.checksum(), 7 * 31);
        CHECK.yes("1: isSound", x.isSound());
        CHECK.fails("1: at(0)", IndexOutOfBoundsException.class, () -> x.at(0));
        CHECK.fails("1: readyOn(0)", IndexOutOfBoundsException.class, () -> x.readyOn(0));
    }

    private static void addsCards() {
        Bothfaces x = new Bothfaces();
        for (int i = 0; i < 16; i++) {
            CHECK.same("2: number of card", x.card(i & 7, 7, 0, 3, i % 2 == 0 ? 's' : 'z'), i);
        }
        CHECK.fails("2: a card too many", IllegalStateException.class, () -> x.card(0, 0, 0, 0, 's'));
        CHECK.fails("2: a wrong card too many", IllegalArgumentException.class, () -> x.card(0, 0, 0, 0, 'x'));
        x.pick();
        CHECK.fails("2: a pick and 16 cards", UnsupportedOperationException.class, () -> x.card(0, 0, 0, 0, 's'));
        for (int i = 0; i < 16; i++) {
            CHECK.same("2: hole 0 is above", x.colour(i, 0, false), i & 7);
            CHECK.same("2: hole 2 is below", x.colour(i, 0, true), 0);
        }
    }

    private static void refusesCards() {
        Bothfaces x = new Bothfaces();
        int[] wrong = {-1, 8, Integer.MIN_VALUE, Integer.MAX_VALUE};
        for (int w : wrong) {
            CHECK.fails("2: one " + w, IllegalArgumentException.class, () -> x.card(w, 0, 0, 0, 's'));
            CHECK.fails("2: two " + w, IllegalArgumentException.class, () -> x.card(0, w, 0, 0, 's'));
            CHECK.fails("2: three " + w, IllegalArgumentException.class, () -> x.card(0, 0, w, 0, 'z'));
            CHECK.fails("2: four " + w, IllegalArgumentException.class, () -> x.card(0, 0, 0, w, 'z'));
        }
        char[] likes = {'S', 'Z', 't', 'r', 'y', '{', (char) 0, (char) 65535};
        for (char like : likes) {
            CHECK.fails("2: like " + (int) like, IllegalArgumentException.class, () -> x.card(0, 0, 0, 0, like));
        }
        CHECK.same("2: none was added", x.kinds(), 0);
        CHECK.same("2: the first one", x.card(7, 7, 7, 7, 'z'), 0);
        x.pick();
        CHECK.fails("2: behind a pick", UnsupportedOperationException.class, () -> x.card(0, 0, 0, 0, 's'));
        CHECK.fails("2: wrong behind a pick", IllegalArgumentException.class, () -> x.card(8, 0, 0, 0, 's'));
        x.unweave();
        CHECK.same("2: the pick is out again", x.card(0, 0, 0, 0, 's'), 1);
    }

    private static void packs() {
        Bothfaces x = new Bothfaces();
        CHECK.fails("3: no card", IndexOutOfBoundsException.class, () -> x.setPack(0, 0));
        x.card(0, 1, 2, 3, 's');
        x.card(0, 1, 2, 3, 's');
        CHECK.same("3: first a card is in the pack 0", x.setPack(1, 3), 0);
        CHECK.same("3: the pack before", x.setPack(1, 2), 3);
        CHECK.same("3: the other card's pack", x.setPack(0, 0), 0);
        CHECK.fails("3: pack 4", IllegalArgumentException.class, () -> x.setPack(1, 4));
        CHECK.fails("3: pack -1", IllegalArgumentException.class, () -> x.setPack(1, -1));
        CHECK.fails("3: card 2", IndexOutOfBoundsException.class, () -> x.setPack(2, 0));
        CHECK.fails("3: card -1", IndexOutOfBoundsException.class, () -> x.setPack(-1, 0));
        CHECK.fails("3: both wrong", IndexOutOfBoundsException.class, () -> x.setPack(2, 4));
        CHECK.same("3: nothing was changed", x.setPack(1, 1), 2);
    }

    private static void turns() {
        Bothfaces x = new Bothfaces();
        CHECK.same("4: without cards", x.turn(0, true), 0);
        for (int i = 0; i < 5; i++) {
            x.card(0, 1, 2, 3, i < 3 ? 's' : 'z');
            x.setPack(i, i % 2 == 0 ? 3 : 1);
        }
        CHECK.same("4: pack 3", x.turn(3, true), 3);
        CHECK.same("4: pack 1", x.turn(1, false), 2);
        CHECK.same("4: an empty pack", x.turn(0, true), 0);
        int[] stands = {1, 3, 1, 3, 1};
        for (int i = 0; i < 5; i++) {
            CHECK.same("5: stand of card " + i, x.at(i), stands[i]);
        }
        CHECK.fails("4: pack 4", IllegalArgumentException.class, () -> x.turn(4, true));
        CHECK.fails("4: pack -1", IllegalArgumentException.class, () -> x.turn(-1, true));
        for (int i = 0; i < 4; i++) {
            CHECK.same("5: round forward", x.at(0), (1 + i) % 4);
            x.turn(3, true);
        }
        CHECK.same("5: once round", x.at(0), 1);
        CHECK.fails("5: card 5", IndexOutOfBoundsException.class, () -> x.at(5));
        CHECK.fails("5: card -1", IndexOutOfBoundsException.class, () -> x.at(-1));
    }

    private static void twists() {
        Bothfaces x = new Bothfaces();
        x.card(0, 1, 2, 3, 's');
        x.card(0, 1, 2, 3, 'z');
        CHECK.same("6: at first", x.twist(0), 0);
        for (int i = 1; i <= 9; i++) {
            x.turn(0, true);
            CHECK.same("6: s forward", x.twist(0), i);
            CHECK.same("6: z forward", x.twist(1), -i);
        }
        for (int i = 8; i >= -5; i--) {
            x.turn(0, false);
            CHECK.same("6: s back", x.twist(0), i);
            CHECK.same("6: z back", x.twist(1), -i);
        }
        CHECK.fails("6: card 2", IndexOutOfBoundsException.class, () -> x.twist(2));
        CHECK.fails("6: card -1", IndexOutOfBoundsException.class, () -> x.twist(-1));
    }

    private static void mostTwist() {
        Bothfaces x = new Bothfaces();
        CHECK.same("7: without cards", x.mostTwist(), 0);
        x.card(0, 1, 2, 3, 's');
        x.card(0, 1, 2, 3, 's');
        x.setPack(1, 1);
        x.turn(0, true);
        x.turn(0, true);
        x.turn(1, true);
        CHECK.same("7: above 0", x.mostTwist(), 2);
        for (int i = 0; i < 4; i++) {
            x.turn(1, false);
        }
        CHECK.same("7: below 0", x.mostTwist(), 3);
        for (int i = 2; i < 16; i++) {
            x.card(0, 1, 2, 3, 'z');
            x.setPack(i, 2);
        }
        x.setPack(15, 3);
        for (int i = 0; i < 5; i++) {
            x.turn(3, true);
        }
        CHECK.same("7: of the last of 16", x.mostTwist(), 5);
    }

    private static void slips() {
        Bothfaces x = new Bothfaces();
        CHECK.fails("8: without cards", IndexOutOfBoundsException.class, () -> x.slip(0, 1));
        x.card(0, 1, 2, 3, 's');
        x.card(0, 1, 2, 3, 'z');
        CHECK.same("8: a quarter back", x.slip(0, -1), 3);
        CHECK.same("8: a half", x.slip(0, 2), 1);
        CHECK.same("8: a quarter forward", x.slip(0, 1), 2);
        CHECK.same("8: where it stands", x.at(0), 2);
        CHECK.same("8: the other card", x.at(1), 0);
        CHECK.same("8: no twist", x.twist(0), 0);
        int[] wrong = {0, -2, 3, 4, Integer.MIN_VALUE, Integer.MAX_VALUE};
        for (int w : wrong) {
            CHECK.fails("8: quarters " + w, IllegalArgumentException.class, () -> x.slip(0, w));
        }
        CHECK.fails("8: card 2", IndexOutOfBoundsException.class, () -> x.slip(2, 1));
        CHECK.fails("8: card -1", IndexOutOfBoundsException.class, () -> x.slip(-1, 1));
        CHECK.fails("8: both wrong", IndexOutOfBoundsException.class, () -> x.slip(2, 0));
        CHECK.same("8: nothing was changed", x.at(0), 2);
    }
}
