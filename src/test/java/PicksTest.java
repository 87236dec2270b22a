/** Promises 9 to 14: picks, what they show, idle cards and floats. */
public final class PicksTest {
    private static final Check CHECK = new Check();

    public static void main(String[] args) {
        putsIn();
        takesOut();
        takesTheOnlyOneOut();
        takesOutOfSixteen();
        shows();
        idleAndFloats();
        CHECK.end();
    }

    private static void putsIn() {
        Bothfaces x = new Bothfaces();
        CHECK.fails("9: without cards", UnsupportedOperationException.class, () -> x.pick());
        x.card(0, 1, 2, 3, 's');
        for (int i = 1; i <= 40; i++) {
            CHECK.same("9: how many", x.pick(), i);
            CHECK.same("11: how many", x.picks(), i);
        }
        CHECK.fails("9: a pick too many", IllegalStateException.class, () -> x.pick());
        CHECK.same("11: still", x.picks(), 40);
        CHECK.same("9: a pick turns nothing", x.at(0), 0);
    }

    private static void takesOut() {
        Bothfaces x = new Bothfaces();
        CHECK.fails("10: without picks", UnsupportedOperationException.class, () -> x.unweave());
        x.card(0, 1, 2, 3, 's');
        x.card(0, 1, 2, 3, 'z');
        x.turn(0, true);
        x.pick();
        x.turn(0, true);
        x.slip(1, 1);
        x.pick();
        x.turn(0, true);
        x.turn(0, true);
        x.pick();
        x.turn(0, false);
        x.slip(0, 2);
        CHECK.same("10: left", x.unweave(), 2);
        CHECK.same("10: stands as in the pick 1", x.at(0), 2);
        CHECK.same("10: stands as in the pick 1, slipped", x.at(1), 3);
        CHECK.same("10: twist as in the pick 1", x.twist(0), 2);
        CHECK.same("10: twist as in the pick 1, z", x.twist(1), -2);
        CHECK.same("10: left then", x.unweave(), 1);
        CHECK.same("10: stands as in the pick 0", x.at(0), 1);
        CHECK.same("10: stands as in the pick 0 too", x.at(1), 1);
        CHECK.same("10: twist as in the pick 0", x.twist(0), 1);
        CHECK.same("10: twist as in the pick 0, z", x.twist(1), -1);
        CHECK.fails("10: the pick is gone", IndexOutOfBoundsException.class, () -> x.colour(0, 1, false));
    }

    private static void takesTheOnlyOneOut() {
        Bothfaces x = new Bothfaces();
        x.card(0, 1, 2, 3, 's');
        x.turn(0, true);
        x.pick();
        x.turn(0, true);
        x.slip(0, 1);
        CHECK.same("10: none left", x.unweave(), 0);
        CHECK.same("10: stands as it is", x.at(0), 3);
        CHECK.same("10: twist as it is", x.twist(0), 2);
        CHECK.fails("10: none any more", UnsupportedOperationException.class, () -> x.unweave());
    }

    private static void takesOutOfSixteen() {
        Bothfaces x = new Bothfaces();
        for (int i = 0; i < 16; i++) {
            x.card(0, 1, 2, 3, 'z');
        }
        x.turn(0, false);
        x.pick();
        x.turn(0, false);
        x.pick();
        x.unweave();
        for (int i = 0; i < 16; i++) {
            CHECK.same("10: stand of card " + i, x.at(i), 3);
            CHECK.same("10: twist of card " + i, x.twist(i), 1);
        }
        CHECK.yes("43: sixteen cards", x.isSound());
    }

    private static void shows() {
        Bothfaces x = new Bothfaces();
        x.card(4, 5, 6, 7, 's');
        x.card(3, 2, 1, 0, 'z');
        x.setPack(1, 1);
        for (int i = 0; i < 6; i++) {
            x.turn(0, true);
            x.turn(1, false);
            x.pick();
        }
        int[] up = {5, 6, 7, 4, 5, 6};
        int[] down = {7, 4, 5, 6, 7, 4};
        int[] otherUp = {0, 1, 2, 3, 0, 1};
        int[] otherDown = {2, 3, 0, 1, 2, 3};
        for (int i = 0; i < 6; i++) {
            CHECK.same("12: front in pick " + i, x.colour(0, i, false), up[i]);
            CHECK.same("12: back in pick " + i, x.colour(0, i, true), down[i]);
            CHECK.same("12: other front in pick " + i, x.colour(1, i, false), otherUp[i]);
            CHECK.same("12: other back in pick " + i, x.colour(1, i, true), otherDown[i]);
        }
        int[] noPick = {-1, 6, 40, Integer.MIN_VALUE, Integer.MAX_VALUE};
        for (int p : noPick) {
            CHECK.fails("12: pick " + p, IndexOutOfBoundsException.class, () -> x.colour(0, p, false));
            CHECK.fails("13: pick " + p, IndexOutOfBoundsException.class, () -> x.isIdle(0, p));
        }
        int[] noCard = {-1, 2, 16, Integer.MIN_VALUE, Integer.MAX_VALUE};
        for (int c : noCard) {
            CHECK.fails("12: card " + c, IndexOutOfBoundsException.class, () -> x.colour(c, 0, true));
            CHECK.fails("13: card " + c, IndexOutOfBoundsException.class, () -> x.isIdle(c, 0));
            CHECK.fails("14: card " + c, IndexOutOfBoundsException.class, () -> x.longestFloat(c));
        }
    }

    private static void idleAndFloats() {
        Bothfaces x = new Bothfaces();
        x.card(0, 0, 0, 0, 's');
        x.card(0, 0, 0, 0, 's');
        x.setPack(1, 1);
        CHECK.same("14: without picks", x.longestFloat(0), 0);
        x.pick();
        CHECK.no("13: the first pick", x.isIdle(0, 0));
        CHECK.same("14: one pick", x.longestFloat(0), 1);
        x.pick();
        CHECK.yes("13: as ahead of it", x.isIdle(0, 1));
        CHECK.same("14: two picks", x.longestFloat(0), 2);
        x.turn(0, true);
        x.pick();
        CHECK.no("13: turned", x.isIdle(0, 2));
        CHECK.yes("13: the other one not", x.isIdle(1, 2));
        x.turn(0, true);
        x.turn(0, false);
        x.pick();
        CHECK.yes("13: turned and back", x.isIdle(0, 3));
        x.slip(0, 2);
        x.slip(0, 2);
        x.pick();
        x.slip(0, 1);
        x.pick();
        CHECK.no("13: slipped", x.isIdle(0, 5));
        CHECK.same("14: the one in the middle", x.longestFloat(0), 3);
        CHECK.same("14: all of them", x.longestFloat(1), 6);
        x.unweave();
        x.unweave();
        CHECK.same("14: less by now", x.longestFloat(0), 2);
    }
}
