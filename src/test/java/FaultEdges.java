import java.util.NoSuchElementException;

/** Promises 27 to 30, and what the terms say of faults, sentence by sentence. */
final class FaultEdges {
    private static final Class<IndexOutOfBoundsException> NO_SUCH = IndexOutOfBoundsException.class;
    private static final Class<NoSuchElementException> NONE = NoSuchElementException.class;

    static void all(Sentences says) {
        says.under("Terms");
        says.needsNoTest("Faults.");
        says.holds("A fault is a card in a pick at which a face does not show what is wanted, each face by itself.",
                FaultEdges::eachFaceByItself);
        says.holds("The suspect is the card with most faults, of like ones the lowest.",
                FaultEdges::lowestOfLikeOnes);
        says.under("Promise 27");
        says.needsNoTest("Returns how many faults there are on a face.", "- `isBack`: whether on the back");
        says.holds("Returns how many.", FaultEdges::fromNoneToAllOfAFace);
        says.under("Promise 28");
        says.needsNoTest("- `card`: the card");
        says.holds("Returns how many faults a card has, on both faces.", FaultEdges::bothFacesOfACard);
        says.holds("Returns how many.", FaultEdges::fromNoneToEightyOfACard);
        says.holds("Throws `IndexOutOfBoundsException` if there is no such card", check -> {
            check.fails("without cards", NO_SUCH, () -> new Bothfaces().faultsOf(0));
            check.range(NO_SUCH, 0, 0, card -> Looms.plain(1).faultsOf(card));
            check.range(NO_SUCH, 0, 15, card -> Looms.standing(Looms.plain(16), 1).faultsOf(card));
        });
        says.under("Promise 29");
        says.holds("Returns the first pick with a fault.", FaultEdges::firstPickOfAll);
        says.needsNoTest("Returns the pick.");
        says.holds("Throws `NoSuchElementException` if there is none",
                check -> refusesWithoutFaults(check, x -> x.firstFault()));
        says.under("Promise 30");
        says.needsNoTest("Returns the suspect.");
        says.holds("Returns the card.", FaultEdges::firstOrLastCard);
        says.holds("Throws `NoSuchElementException` if there is no fault",
                check -> refusesWithoutFaults(check, x -> x.suspect()));
    }

    /** A call that wants a fault. */
    private interface Asked {
        int of(Bothfaces x);
    }

    private static void refusesWithoutFaults(Check check, Asked asked) {
        check.fails("without cards", NONE, () -> asked.of(new Bothfaces()));
        Bothfaces x = Looms.plain(16);
        x.setGround(false, 7);
        check.fails("without picks", NONE, () -> asked.of(x));
        x.setGround(false, 0);
        Looms.standing(x, 40);
        check.fails("all is right", NONE, () -> asked.of(x));
        x.setGround(true, 7);
        check.passes("the back is wrong", () -> asked.of(x));
        x.setGround(true, 0);
        check.fails("right again", NONE, () -> asked.of(x));
        Bothfaces one = Looms.standing(Looms.of(1, 0, 0, 0), 1);
        check.passes("a fault", () -> asked.of(one));
        one.unweave();
        check.fails("its pick is taken out", NONE, () -> asked.of(one));
    }

    private static void eachFaceByItself(Check check) {
        int[][] threads = {{0, 5, 0, 5}, {1, 5, 0, 5}, {0, 5, 1, 5}, {1, 5, 1, 5}};
        int[] front = {0, 1, 0, 1};
        int[] back = {0, 0, 1, 1};
        for (int i = 0; i < 4; i++) {
            Bothfaces x = Looms.of(threads[i][0], threads[i][1], threads[i][2], threads[i][3]);
            x.pick();
            check.same("front of " + i, x.faults(false), front[i]);
            check.same("back of " + i, x.faults(true), back[i]);
            check.same("both of " + i, x.faultsOf(0), front[i] + back[i]);
        }
        Bothfaces motto = Looms.standing(Looms.typing(Looms.plain(5), "a"), 4);
        motto.draw('a', 4, 3);
        motto.motto(false, 0, 1);
        check.same("of a motto laid behind its picks", motto.faults(false), 2);
        check.same("the back has none", motto.faults(true), 0);
        motto.motto(false, 0, 2);
        check.same("in the last pick, one is not there", motto.faults(false), 1);
        motto.setInk(false, 0);
        check.same("the ink is as the thread", motto.faults(false), 0);
        motto.setGround(false, 1);
        check.same("the ground is not", motto.faults(false), 19);
    }

    private static void lowestOfLikeOnes(Check check) {
        Bothfaces x = Looms.plain(16);
        x.setGround(false, 1);
        x.pick();
        check.same("all alike", x.suspect(), 0);
        Bothfaces last = new Bothfaces();
        for (int i = 0; i < 16; i++) {
            last.card(0, i == 15 || i == 9 || i == 4 ? 1 : 0, 0, i == 15 ? 1 : 0, 's');
        }
        Looms.turning(last, 1);
        check.same("most by both faces", last.suspect(), 15);
        last.slip(15, -1);
        last.unweave();
        last.pick();
        check.same("the lowest of two", last.suspect(), 4);
    }

    private static void fromNoneToAllOfAFace(Check check) {
        Bothfaces x = new Bothfaces();
        check.same("without cards", x.faults(false) + x.faults(true), 0);
        for (int i = 0; i < 16; i++) {
            x.card(0, 0, 0, 0, 's');
        }
        x.setGround(true, 7);
        check.same("without picks", x.faults(true), 0);
        for (int picks = 1; picks <= 40; picks++) {
            x.pick();
            check.same("back of " + picks, x.faults(true), 16 * picks);
            check.same("front of " + picks, x.faults(false), 0);
        }
    }

    private static void bothFacesOfACard(Check check) {
        Bothfaces x = new Bothfaces();
        x.card(1, 0, 0, 0, 's');
        x.card(0, 0, 1, 0, 's');
        x.card(1, 0, 1, 0, 's');
        x.card(0, 1, 0, 1, 's');
        x.pick();
        int[] due = {1, 1, 2, 0};
        for (int card = 0; card < 4; card++) {
            check.same("card " + card, x.faultsOf(card), due[card]);
        }
    }

    private static void fromNoneToEightyOfACard(Check check) {
        Bothfaces x = Looms.plain(16);
        x.setGround(false, 1);
        x.setGround(true, 1);
        check.same("without picks", x.faultsOf(15), 0);
        Looms.standing(x, 40);
        check.same("the last card", x.faultsOf(15), 80);
        check.same("the first card", x.faultsOf(0), 80);
        x.setGround(true, 0);
        check.same("one face", x.faultsOf(15), 40);
    }

    private static void firstPickOfAll(Check check) {
        Bothfaces x = new Bothfaces();
        for (int i = 0; i < 16; i++) {
            x.card(0, 0, 0, i == 15 ? 1 : 0, 's');
        }
        Looms.standing(x, 39);
        x.turn(0, true);
        x.pick();
        check.same("the last pick, the last card, the back", x.firstFault(), 39);
        x.setGround(true, 1);
        check.same("the first pick", x.firstFault(), 0);
        Bothfaces two = Looms.of(0, 0, 0, 1);
        Looms.standing(two, 1);
        Looms.turning(two, 3);
        check.same("the first one, on the back, though two follow", two.firstFault(), 1);
        Bothfaces both = new Bothfaces();
        both.card(0, 0, 1, 0, 's');
        both.card(0, 1, 0, 0, 's');
        both.setPack(0, 1);
        both.slip(0, 1);
        Looms.turning(both, 1);
        both.turn(1, true);
        both.pick();
        check.same("that of a later card, in an earlier pick", both.firstFault(), 0);
    }

    private static void firstOrLastCard(Check check) {
        for (int wrong = 0; wrong < 16; wrong++) {
            Bothfaces x = new Bothfaces();
            for (int i = 0; i < 16; i++) {
                x.card(0, 0, i == wrong ? 1 : 0, 0, 's');
            }
            x.pick();
            check.same("the one with a fault", x.suspect(), wrong);
        }
    }
}
