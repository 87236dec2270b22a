/** Promises 31 to 33: ways between picks, yarn, and kinds of cards. */
public final class MendingTest {
    private static final Check CHECK = new Check();

    public static void main(String[] args) {
        countsUnseenWays();
        countsSeenWays();
        countsWaysByTheFrontAlone();
        refusesWays();
        measuresYarn();
        countsKinds();
        CHECK.end();
    }

    private static Bothfaces woven(int picks, int one, int two, int three, int four) {
        Bothfaces x = new Bothfaces();
        x.card(one, two, three, four, 's');
        for (int i = 0; i < picks; i++) {
            x.turn(0, true);
            x.pick();
        }
        return x;
    }

    /** Half of all rows of n turns lead two quarters on or round, and half of those each, from two turns on. */
    private static void countsUnseenWays() {
        Bothfaces x = woven(40, 0, 1, 2, 3);
        CHECK.same("31: one turn", x.ways(0, 0, 1, false), 1);
        CHECK.same("31: two turns", x.ways(0, 0, 2, false), 2);
        CHECK.same("31: three turns", x.ways(0, 5, 8, false), 4);
        CHECK.same("31: three turns, seen in all colours", x.ways(0, 5, 8, true), 1);
        CHECK.same("31: all turns", x.ways(0, 0, 39, false), 1L << 38);
        CHECK.same("31: all but one", x.ways(0, 1, 39, false), 1L << 37);
        x.unweave();
        x.slip(0, 1);
        x.pick();
        CHECK.same("31: slipped on", x.ways(0, 0, 39, false), 1L << 38);
        x.unweave();
        x.pick();
        CHECK.same("31: stood still", x.ways(0, 38, 39, false), 0);
        CHECK.same("31: stood still at last", x.ways(0, 0, 39, false), 0);
    }

    private static void countsSeenWays() {
        CHECK.same("31: all of one colour", woven(40, 3, 3, 3, 3).ways(0, 0, 39, true), 1L << 38);
        CHECK.same("31: in turns", woven(20, 0, 1, 0, 1).ways(0, 0, 11, true), 1L << 10);
        Bothfaces x = new Bothfaces();
        x.card(0, 1, 0, 2, 's');
        x.card(0, 1, 0, 0, 's');
        x.setPack(1, 1);
        for (int i = 0; i < 5; i++) {
            x.pick();
            x.turn(0, i % 2 == 0);
            x.turn(1, true);
        }
        CHECK.same("31: between 0 and 4 the colours 1, 0, 1", x.ways(0, 0, 4, true), 2);
        CHECK.same("31: unseen", x.ways(0, 0, 4, false), 8);
        CHECK.same("31: the first and the second one need not be seen", x.ways(0, 1, 3, true), 2);
        CHECK.same("31: nothing lies between", x.ways(0, 3, 4, true), 1);
        CHECK.same("31: a quarter each, seen 1, 0, 0", x.ways(1, 0, 4, true), 2);
        x.slip(0, 1);
        x.pick();
        CHECK.same("31: a slip to the other place", x.ways(0, 4, 5, true), x.at(0) == 2 || x.at(0) == 0 ? 0 : 1);
    }

    /** From the hole 1 to the hole 1, or 3, by each hole that shows the front's colour in the pick between. */
    private static void countsWaysByTheFrontAlone() {
        int[][] threads = {{0, 4, 1, 4}, {1, 4, 0, 4}, {0, 4, 0, 5}, {3, 2, 3, 3}};
        int[] due = {1, 1, 2, 2};
        for (int i = 0; i < 4; i++) {
            for (int from = 0; from < 4; from++) {
                Bothfaces x = new Bothfaces();
                int[] t = threads[i];
                x.card(t[from], t[(from + 1) % 4], t[(from + 2) % 4], t[(from + 3) % 4], 's');
                while ((x.at(0) + from) % 4 != 1) {
                    x.slip(0, 1);
                }
                for (int pick = 0; pick < 3; pick++) {
                    x.pick();
                    x.turn(0, true);
                }
                CHECK.same("31: threads " + i + " from " + from, x.ways(0, 0, 2, true), due[i]);
                CHECK.same("31: unseen", x.ways(0, 0, 2, false), 2);
            }
        }
    }

    private static void refusesWays() {
        Bothfaces none = new Bothfaces();
        CHECK.fails("31: without cards", IndexOutOfBoundsException.class, () -> none.ways(0, 0, 0, true));
        Bothfaces x = woven(3, 0, 1, 2, 3);
        int[] wrong = {-1, 3, Integer.MIN_VALUE, Integer.MAX_VALUE};
        for (int w : wrong) {
            CHECK.fails("31: card " + w, IndexOutOfBoundsException.class, () -> x.ways(w, 0, 1, true));
            CHECK.fails("31: first " + w, IndexOutOfBoundsException.class, () -> x.ways(0, w, 1, false));
            CHECK.fails("31: second " + w, IndexOutOfBoundsException.class, () -> x.ways(0, 1, w, false));
        }
        CHECK.fails("31: card 1", IndexOutOfBoundsException.class, () -> x.ways(1, 2, 1, true));
        CHECK.fails("31: the same one", IllegalArgumentException.class, () -> x.ways(0, 1, 1, true));
        CHECK.fails("31: an earlier one", IllegalArgumentException.class, () -> x.ways(0, 2, 1, false));
    }

    private static void measuresYarn() {
        Bothfaces x = new Bothfaces();
        CHECK.same("32: without cards", x.yarn(0), 0);
        x.card(0, 1, 0, 2, 's');
        x.card(1, 1, 5, 5, 'z');
        x.setPack(1, 1);
        CHECK.same("32: without picks", x.yarn(0), 0);
        x.pick();
        yarns(x, "one pick", 24, 36, 12, 24);
        x.pick();
        yarns(x, "all stand still", 48, 72, 24, 48);
        x.turn(0, true);
        x.pick();
        yarns(x, "the holes 1 and 3 come up", 72, 111, 39, 72);
        x.slip(0, 2);
        x.pick();
        yarns(x, "a half changes no thread", 96, 147, 51, 96);
        x.slip(0, -1);
        x.turn(1, false);
        x.pick();
        yarns(x, "the holes 0 and 2 come up", 126, 186, 63, 123);
        Bothfaces soon = woven(2, 0, 1, 2, 3);
        CHECK.same("32: comes up in the pick 1", soon.yarn(0), 27);
        CHECK.same("32: was up in the pick 0", soon.yarn(1), 24);
        CHECK.same("32: no such yarn", x.yarn(7), 0);
        int[] wrong = {-1, 8, Integer.MIN_VALUE, Integer.MAX_VALUE};
        for (int w : wrong) {
            CHECK.fails("32: colour " + w, IllegalArgumentException.class, () -> x.yarn(w));
        }
    }

    private static void yarns(Bothfaces x, String when, int zero, int one, int two, int five) {
        CHECK.same("32: colour 0, " + when, x.yarn(0), zero);
        CHECK.same("32: colour 1, " + when, x.yarn(1), one);
        CHECK.same("32: colour 2, " + when, x.yarn(2), two);
        CHECK.same("32: colour 5, " + when, x.yarn(5), five);
    }

    private static void countsKinds() {
        Bothfaces x = new Bothfaces();
        CHECK.same("33: without cards", x.kinds(), 0);
        x.card(0, 1, 2, 3, 's');
        CHECK.same("33: one", x.kinds(), 1);
        x.card(3, 0, 1, 2, 's');
        CHECK.same("33: from the hole 1 on", x.kinds(), 1);
        x.card(2, 3, 0, 1, 's');
        CHECK.same("33: from the hole 2 on", x.kinds(), 1);
        x.card(1, 2, 3, 0, 's');
        CHECK.same("33: from the hole 3 on", x.kinds(), 1);
        x.card(1, 2, 3, 0, 'z');
        CHECK.same("33: threaded the other way", x.kinds(), 2);
        x.card(0, 1, 2, 3, 's');
        CHECK.same("33: from the hole 0 on", x.kinds(), 2);
        x.card(3, 2, 1, 0, 's');
        CHECK.same("33: the other way round is another kind", x.kinds(), 3);
        x.card(0, 0, 1, 1, 's');
        x.card(0, 1, 0, 1, 's');
        CHECK.same("33: like colours in another row", x.kinds(), 5);
        x.card(4, 1, 0, 1, 's');
        x.card(0, 4, 0, 1, 's');
        CHECK.same("33: another colour in one hole", x.kinds(), 7);
        x.turn(0, true);
        x.pick();
        CHECK.same("33: where they stand does not matter", x.kinds(), 7);
    }
}
