/** Promises 31 to 33, and what the terms say of mending and yarn, sentence by sentence. */
final class MendingEdges {
    private static final Class<IndexOutOfBoundsException> NO_SUCH = IndexOutOfBoundsException.class;
    private static final Class<IllegalArgumentException> OUT_OF_RANGE = IllegalArgumentException.class;

    static void all(Sentences says) {
        waysBetweenPicks(says);
        yarnAndKinds(says);
    }

    private static void waysBetweenPicks(Sentences says) {
        says.under("Terms");
        says.needsNoTest("Mending.");
        says.holds("Between two picks, some of whose picks between are gone, a card can have gone by so many rows of"
                + " turns, forward or back, one for each pick from the first one to the second one, as lead from where"
                + " it stood in the first to where it stood in the second, each pick between showing on the front the"
                + " colour that is still seen there, if it is told to be seen, at that card.",
                MendingEdges::waysByAllItsWords);
        says.under("Promise 31");
        says.needsNoTest("Counts in how many ways a card can have gone between two picks.", "- `card`: the card");
        says.holds("- `first`: the one pick", MendingEdges::fromEachPick);
        says.holds("- `second`: a later one", MendingEdges::toEachLaterPick);
        says.holds("- `isSeen`: whether the front of picks between is still seen", MendingEdges::betweenAlone);
        says.holds("Returns how many.", MendingEdges::fromNoneToTheMost);
        says.holds("Throws `IndexOutOfBoundsException` if there is no such card or pick, for either",
                MendingEdges::refusesCardsAndPicks);
        says.holds("Throws `IllegalArgumentException` if the second one is not later", MendingEdges::refusesNotLater);
    }

    private static void yarnAndKinds(Sentences says) {
        says.under("Terms");
        says.needsNoTest("Yarn.");
        says.holds("A thread is as long as 12 for each pick, and 3 more for each pick behind the first one in which"
                + " it is above or below, and was neither in the pick ahead of it.", MendingEdges::threeMoreForAChange);
        says.under("Promise 32");
        says.needsNoTest("Returns how much yarn of a colour was used.");
        says.holds("- `colour`: 0 to 7", MendingEdges::eachColour);
        says.holds("Returns the length.", MendingEdges::fromNoneToAllYarn);
        says.holds("Throws `IllegalArgumentException` if a number is out of range", check -> {
            check.range(OUT_OF_RANGE, 0, 7, colour -> new Bothfaces().yarn(colour));
            check.range(OUT_OF_RANGE, 0, 7, colour -> Looms.standing(Looms.withCards(2), 2).yarn(colour));
        });
        says.under("Promise 33");
        says.holds("Returns how many kinds of cards there are: two are of one kind if they are threaded alike and the"
                + " colours of one, from some hole on, are those of the other one.", MendingEdges::roundFromSomeHole);
        says.holds("Returns how many.", MendingEdges::fromNoneToSixteenKinds);
    }

    private static void waysByAllItsWords(Check check) {
        Bothfaces x = Looms.turning(Looms.withCards(2), 5);
        check.same("one turn", x.ways(1, 0, 1, false), 1);
        check.same("a half round by two", x.ways(1, 0, 2, false), 2);
        check.same("a quarter back by three", x.ways(1, 0, 3, false), 4);
        check.same("once round by four", x.ways(1, 0, 4, false), 8);
        check.same("the seen ones tell all", x.ways(1, 0, 4, true), 1);
        Bothfaces half = Looms.turning(Looms.of(0, 1, 2, 1), 5);
        check.same("by the hole 2 or 0, unseen", half.ways(0, 0, 2, false), 2);
        check.same("by the hole 2, as the colour tells", half.ways(0, 0, 2, true), 1);
        check.same("by the hole 3 or 1, which look alike", half.ways(0, 1, 3, true), 2);
        Bothfaces slipped = Looms.turning(Looms.withCards(1), 1);
        slipped.slip(0, 2);
        slipped.turn(0, true);
        slipped.pick();
        check.same("slipped by a half, one turn the other way", slipped.ways(0, 0, 1, false), 1);
        slipped.slip(0, 1);
        slipped.turn(0, true);
        slipped.pick();
        check.same("slipped by a quarter", slipped.ways(0, 1, 2, false), 0);
        check.same("slipped by a quarter on the way", slipped.ways(0, 0, 2, true), 0);
    }

    private static void fromEachPick(Check check) {
        Bothfaces x = Looms.turning(Looms.plain(1), 40);
        for (int first = 0; first < 39; first++) {
            check.same("from " + first + " to 39", x.ways(0, first, 39, true), 1L << (38 - first));
        }
    }

    private static void toEachLaterPick(Check check) {
        Bothfaces x = Looms.turning(Looms.plain(1), 40);
        for (int second = 1; second < 40; second++) {
            check.same("from 0 to " + second, x.ways(0, 0, second, false), 1L << (second - 1));
            check.same("from the one ahead to " + second, x.ways(0, second - 1, second, true), 1);
        }
    }

    /** The first pick, the second one and those outside do not count, though nothing else shows their colours. */
    private static void betweenAlone(Check check) {
        Bothfaces x = Looms.turning(Looms.of(5, 1, 6, 1), 7);
        check.same("nothing is between", x.ways(0, 1, 2, true), 1);
        check.same("a pick between, 1", x.ways(0, 1, 3, true), 2);
        check.same("a pick between, 5", x.ways(0, 2, 4, true), 1);
        check.same("three between, 1, 5, 1", x.ways(0, 1, 5, true), 4);
        check.same("three between, unseen", x.ways(0, 1, 5, false), 8);
    }

    private static void fromNoneToTheMost(Check check) {
        Bothfaces x = Looms.turning(Looms.plain(16), 40);
        check.same("most, seen", x.ways(15, 0, 39, true), 274877906944L);
        check.same("most, unseen", x.ways(15, 0, 39, false), 274877906944L);
        Bothfaces idle = Looms.standing(Looms.plain(1), 40);
        check.same("idle, one turn", idle.ways(0, 0, 1, false), 0);
        check.same("idle, two turns", idle.ways(0, 0, 2, false), 2);
        check.same("idle, 39 turns", idle.ways(0, 0, 39, false), 0);
        check.same("idle, 38 turns", idle.ways(0, 1, 39, true), 137438953472L);
    }

    private static void refusesCardsAndPicks(Check check) {
        check.fails("without cards", NO_SUCH, () -> new Bothfaces().ways(0, 0, 1, true));
        check.fails("without picks", NO_SUCH, () -> Looms.plain(1).ways(0, 0, 1, true));
        check.range(NO_SUCH, 0, 1, card -> Looms.standing(Looms.plain(2), 2).ways(card, 0, 1, false));
        int[] wrong = {-1, 5, 6, 40, Integer.MIN_VALUE, Integer.MAX_VALUE};
        for (int pick : wrong) {
            Bothfaces five = Looms.standing(Looms.plain(1), 5);
            check.fails("from " + pick, NO_SUCH, () -> five.ways(0, pick, 4, false));
            check.fails("to " + pick, NO_SUCH, () -> five.ways(0, 0, pick, true));
            check.fails("from and to " + pick, NO_SUCH, () -> five.ways(0, pick, pick, true));
        }
        Bothfaces full = Looms.standing(Looms.plain(1), 40);
        check.fails("the pick 40", NO_SUCH, () -> full.ways(0, 0, 40, false));
        full.unweave();
        check.fails("taken out", NO_SUCH, () -> full.ways(0, 0, 39, false));
        check.passes("not taken out", () -> full.ways(0, 0, 38, false));
    }

    private static void refusesNotLater(Check check) {
        Bothfaces x = Looms.standing(Looms.plain(1), 40);
        for (int first = 0; first < 40; first += 13) {
            for (int second = 0; second <= first; second++) {
                int from = first;
                int to = second;
                check.fails(first + " to " + second, OUT_OF_RANGE, () -> x.ways(0, from, to, true));
            }
        }
        check.fails("the only pick to itself", OUT_OF_RANGE,
                () -> Looms.standing(Looms.plain(1), 1).ways(0, 0, 0, false));
    }

    /** Colour 1 is in the holes 1 and 3, colour 0 in the holes 0 and 2. */
    private static void threeMoreForAChange(Check check) {
        Bothfaces x = Looms.of(0, 1, 0, 1);
        x.turn(0, true);
        x.pick();
        seesYarn(check, "not in the first pick", x, 24, 24);
        x.pick();
        seesYarn(check, "idle", x, 48, 48);
        x.turn(0, true);
        x.pick();
        seesYarn(check, "0 comes up behind", x, 78, 72);
        x.turn(0, true);
        x.turn(0, true);
        x.pick();
        seesYarn(check, "a half round, above goes below", x, 102, 96);
        x.slip(0, 1);
        x.pick();
        seesYarn(check, "1 comes up by a slip", x, 126, 126);
        x.turn(0, false);
        x.turn(0, true);
        x.pick();
        seesYarn(check, "to and fro ahead of one pick", x, 150, 150);
        x.unweave();
        x.unweave();
        seesYarn(check, "without what is taken out", x, 102, 96);
    }

    private static void seesYarn(Check check, String when, Bothfaces x, int zero, int one) {
        check.same(when + ", colour 0", x.yarn(0), zero);
        check.same(when + ", colour 1", x.yarn(1), one);
    }

    private static void eachColour(Check check) {
        Bothfaces x = new Bothfaces();
        x.card(0, 1, 2, 3, 's');
        x.card(4, 5, 6, 7, 'z');
        Looms.turning(x, 2);
        for (int colour = 0; colour < 8; colour++) {
            check.same("colour " + colour, x.yarn(colour), colour % 2 == 0 ? 27 : 24);
        }
        check.same("a colour of no thread", Looms.turning(Looms.of(0, 1, 2, 3), 2).yarn(7), 0);
    }

    private static void fromNoneToAllYarn(Check check) {
        Bothfaces x = new Bothfaces();
        check.same("without cards", x.yarn(7), 0);
        for (int i = 0; i < 16; i++) {
            x.card(7, 7, 7, 7, 's');
        }
        check.same("without picks", x.yarn(7), 0);
        Looms.turning(x, 40);
        check.same("all of one colour", x.yarn(7), 64 * 40 * 12 + 16 * 39 * 2 * 3);
        check.same("none of another one", x.yarn(0), 0);
        for (int i = 0; i < 40; i++) {
            x.unweave();
        }
        check.same("without picks again", x.yarn(7), 0);
    }

    private static int kindsOf(int[] one, char like, int[] other, char otherLike) {
        Bothfaces x = new Bothfaces();
        x.card(one[0], one[1], one[2], one[3], like);
        x.card(other[0], other[1], other[2], other[3], otherLike);
        return x.kinds();
    }

    private static void roundFromSomeHole(Check check) {
        int[] one = {1, 2, 3, 4};
        int[][] round = {{1, 2, 3, 4}, {2, 3, 4, 1}, {3, 4, 1, 2}, {4, 1, 2, 3}};
        for (int from = 0; from < 4; from++) {
            check.same("from the hole " + from + " on, s", kindsOf(one, 's', round[from], 's'), 1);
            check.same("from the hole " + from + " on, z", kindsOf(one, 'z', round[from], 'z'), 1);
            check.same("from the hole " + from + " on, s and z", kindsOf(one, 's', round[from], 'z'), 2);
        }
        int[][] others = {{4, 3, 2, 1}, {1, 3, 2, 4}, {1, 2, 4, 3}, {2, 1, 3, 4}, {1, 2, 3, 3}, {1, 2, 3, 0}};
        for (int[] other : others) {
            check.same("another row of colours", kindsOf(one, 's', other, 's'), 2);
        }
        check.same("1, 1, 2, 2 and 1, 2, 1, 2", kindsOf(new int[] {1, 1, 2, 2}, 's', new int[] {1, 2, 1, 2}, 's'), 2);
        check.same("1, 1, 2, 2 and 2, 1, 1, 2", kindsOf(new int[] {1, 1, 2, 2}, 's', new int[] {2, 1, 1, 2}, 's'), 1);
    }

    private static void fromNoneToSixteenKinds(Check check) {
        Bothfaces x = new Bothfaces();
        check.same("without cards", x.kinds(), 0);
        for (int i = 0; i < 16; i++) {
            x.card(i & 7, 0, 0, 0, i < 8 ? 's' : 'z');
            check.same("all unlike", x.kinds(), i + 1);
        }
        check.same("all alike", Looms.plain(16).kinds(), 1);
        Bothfaces ends = new Bothfaces();
        for (int i = 0; i < 16; i++) {
            ends.card(0, i == 15 ? 5 : 0, i == 0 ? 5 : 0, 0, 's');
        }
        check.same("the last one as the first one, turned", ends.kinds(), 2);
    }
}
