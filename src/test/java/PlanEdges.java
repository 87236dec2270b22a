import java.util.NoSuchElementException;

/** Promises 23 to 26, and what the terms say of plans, sentence by sentence. */
final class PlanEdges {
    private static final Class<IndexOutOfBoundsException> NO_SUCH = IndexOutOfBoundsException.class;
    private static final Class<IllegalArgumentException> OUT_OF_RANGE = IllegalArgumentException.class;
    private static final Class<UnsupportedOperationException> UNSUPPORTED = UnsupportedOperationException.class;
    private static final Class<NoSuchElementException> NONE = NoSuchElementException.class;

    private static final String LAST = "- `last`: the pick, from that which is put in next on to 39";
    private static final String RANGE = "Throws `IllegalArgumentException` if a number is out of range";
    private static final String NO_CARD = "Throws `IndexOutOfBoundsException` if there is no such card";

    /** A call of one of the methods about plans. */
    private interface Asked {
        void of(Bothfaces x, int card, int last);
    }

    static void all(Sentences says) {
        terms(says);
        whetherAndReversals(says);
        turnsOfPlans(says);
        weaving(says);
    }

    private static void terms(Sentences says) {
        says.under("Terms");
        says.needsNoTest("Plans.");
        says.holds("A plan of a card is a row of turns, one ahead of each pick from now on up to a last pick, forward"
                + " or back, none left out, from where it stands now, by which each of these picks shows on both faces"
                + " at the card what is wanted.", PlanEdges::plansByAllItsWords);
        says.holds("The best plan has fewest reversals, those turns that go the other way than the one ahead of it in"
                + " the plan;", PlanEdges::fewestReversals);
        says.holds("of like ones that which goes forward where they first differ.", PlanEdges::forwardOfLikeOnes);
    }

    private static void whetherAndReversals(Sentences says) {
        says.under("Promise 23");
        says.needsNoTest("Tells whether a card can be planned up to a pick.", "- `card`: the card");
        says.holds(LAST, check -> eachLast(check, (x, card, last) -> x.canPlan(card, last)));
        says.holds("Returns whether so.", PlanEdges::upToWhereItCan);
        says.holds(NO_CARD, check -> noCard(check, (x, card, last) -> x.canPlan(card, last)));
        says.holds(RANGE, check -> refusesLasts(check, (x, card, last) -> x.canPlan(card, last)));
        says.under("Promise 24");
        says.needsNoTest("Returns how many reversals the best plan of a card has.", "- `card`: the card");
        says.holds(LAST, check -> eachLast(check, (x, card, last) -> x.reversals(card, last)));
        says.holds("Returns how many.", PlanEdges::fromNoneTo39Reversals);
        says.holds(NO_CARD, check -> noCard(check, (x, card, last) -> x.reversals(card, last)));
        says.holds(RANGE, check -> refusesLasts(check, (x, card, last) -> x.reversals(card, last)));
        says.holds("Throws `NoSuchElementException` if there is no plan",
                check -> refusesWithoutPlan(check, (x, card, last) -> x.reversals(card, last)));
    }

    private static void turnsOfPlans(Sentences says) {
        says.under("Promise 25");
        says.needsNoTest("Returns a turn of the best plan of a card.", "- `card`: the card");
        says.holds(LAST, check -> eachLast(check, (x, card, last) -> x.planAt(card, last, 0)));
        says.holds("- `index`: 0 for the turn ahead of the pick that is put in next, and so on",
                PlanEdges::indexFromThePickPutInNext);
        says.holds("Returns 'f' or 'b'.", PlanEdges::forwardOrBack);
        says.holds(NO_CARD, check -> noCard(check, (x, card, last) -> x.planAt(card, last, 0)));
        says.holds(RANGE, check -> refusesLasts(check, (x, card, last) -> x.planAt(card, last, 0)));
        says.holds("Throws `NoSuchElementException` if there is no plan, or no such turn in it", check -> {
            refusesWithoutPlan(check, (x, card, last) -> x.planAt(card, last, 0));
            refusesTurnsBeyondThePlan(check);
        });
    }

    private static void weaving(Sentences says) {
        says.under("Promise 26");
        says.holds("Weaves a pick by plans up to a pick: each card that has one turns by the first turn of its best"
                + " one, others turn forward.", PlanEdges::byThePlanOrForward);
        says.holds(LAST, check -> eachLast(check, (x, card, last) -> x.weave(last)));
        says.holds("Returns how many cards had a plan.", PlanEdges::fromNoneToSixteenPlanned);
        says.holds(RANGE, check -> {
            refusesLasts(check, (x, card, last) -> x.weave(last));
            check.fails("41 picks", OUT_OF_RANGE, () -> Looms.standing(Looms.plain(1), 40).weave(39));
        });
        says.holds("Throws `UnsupportedOperationException` if there are no cards", check -> {
            Bothfaces x = new Bothfaces();
            check.fails("up to the pick 0", UNSUPPORTED, () -> x.weave(0));
            check.fails("up to the pick 39", UNSUPPORTED, () -> x.weave(39));
            check.same("no pick was put in", x.picks(), 0);
            x.card(0, 0, 0, 0, 's');
            check.same("with one card", x.weave(39), 1);
        });
    }

    private static void plansByAllItsWords(Check check) {
        Bothfaces x = Looms.of(0, 1, 2, 3);
        x.setGround(true, 2);
        check.no("it stands there, but no turn is left out", x.canPlan(0, 0));
        x.turn(0, true);
        check.same("back from 1", x.planAt(0, 0, 0), 'b');
        x.turn(0, true);
        check.no("from 2 it is two turns", x.canPlan(0, 0));
        x.turn(0, true);
        check.same("forward from 3, round to 0", x.planAt(0, 0, 0), 'f');
        check.no("then it can't stay there", x.canPlan(0, 1));
        x.setGround(true, 3);
        check.no("the front alone", x.canPlan(0, 0));
        x.setGround(false, 1);
        x.setGround(true, 2);
        check.no("the back alone", x.canPlan(0, 0));
        x.setGround(false, 0);
        x.pick();
        check.yes("it stands as it stood in the pick", x.canPlan(0, 1));
        x.slip(0, 1);
        check.no("it slipped", x.canPlan(0, 1));
        reachesTheLastPickAlone(check);
        looksNotAtWhatIsWoven(check);
    }

    /** A motto asks in its first, second or third pick for what the card does not have. */
    private static void reachesTheLastPickAlone(Check check) {
        int[] bits = {4, 2, 1};
        for (int pick = 0; pick < 3; pick++) {
            Bothfaces x = Looms.typing(Looms.plain(5), "a");
            x.draw('a', 0, bits[pick]);
            x.motto(false, 0, 0);
            for (int last = 0; last < 40; last++) {
                check.same("ink at " + pick + ", up to " + last, x.canPlan(0, last) ? 1 : 0, last < pick ? 1 : 0);
            }
            check.yes("another card", x.canPlan(1, 39));
        }
        Bothfaces end = Looms.typing(Looms.plain(5), "a");
        end.draw('a', 4, 4);
        end.motto(true, 0, 37);
        check.yes("ink at 39, up to 38", end.canPlan(4, 38));
        check.no("ink at 39 on the back", end.canPlan(4, 39));
    }

    private static void looksNotAtWhatIsWoven(Check check) {
        Bothfaces x = Looms.typing(Looms.plain(5), "a");
        x.draw('a', 0, 6);
        x.motto(false, 0, 0);
        check.no("two faults ahead", x.canPlan(0, 39));
        x.pick();
        check.no("one fault ahead", x.canPlan(0, 39));
        x.pick();
        check.yes("both are woven", x.canPlan(0, 39));
    }

    /**
     * The holes 1 and 3 show 1 on both faces, which is the ground, the hole 0 alone 2 and 3, which are the
     * inks: the bits tell which of the first three picks ask for it. The back's letter is drawn the other way.
     */
    private static Bothfaces withACrossing(int bits) {
        Bothfaces x = new Bothfaces();
        for (int i = 0; i < 5; i++) {
            x.card(2, 1, 3, 1, 's');
        }
        x.setGround(false, 1);
        x.setGround(true, 1);
        x.setInk(false, 2);
        x.setInk(true, 3);
        x.type('a');
        x.draw('a', 0, bits);
        x.motto(false, 0, 0);
        x.wipe();
        x.type('b');
        x.draw('b', 0, Integer.reverse(bits) >>> 29);
        x.motto(true, 0, 0);
        return x;
    }

    private static void seesPlan(Check check, Bothfaces x, int last, String due, int reversals) {
        check.same(due + ", reversals", x.reversals(0, last), reversals);
        for (int i = 0; i < due.length(); i++) {
            check.same(due + ", turn " + i, x.planAt(0, last, i), due.charAt(i));
        }
    }

    private static void fewestReversals(Check check) {
        Bothfaces x = withACrossing(5);
        x.turn(0, true);
        seesPlan(check, x, 0, "b", 0);
        seesPlan(check, x, 1, "bb", 0);
        seesPlan(check, x, 2, "bbf", 1);
        Bothfaces from3 = withACrossing(5);
        from3.turn(0, false);
        seesPlan(check, from3, 2, "ffb", 1);
        Bothfaces plain = Looms.plain(1);
        seesPlan(check, plain, 39, "ffffffffffffffffffffffffffffffffffffffff", 0);
        plain.turn(0, false);
        plain.pick();
        seesPlan(check, plain, 1, "f", 0);
    }

    private static void forwardOfLikeOnes(Check check) {
        seesPlan(check, withACrossing(0), 0, "f", 0);
        seesPlan(check, withACrossing(2), 1, "fb", 1);
        seesPlan(check, withACrossing(2), 2, "fbb", 1);
        Bothfaces from2 = withACrossing(2);
        from2.slip(0, 2);
        seesPlan(check, from2, 2, "fff", 0);
        check.no("nothing but back", withACrossing(4).canPlan(0, 0));
        Bothfaces back = withACrossing(4);
        back.slip(0, 1);
        seesPlan(check, back, 0, "b", 0);
    }

    private static void eachLast(Check check, Asked asked) {
        int[] picks = {0, 1, 20, 38, 39};
        for (int put : picks) {
            check.range(OUT_OF_RANGE, put, 39, last -> asked.of(Looms.standing(Looms.plain(1), put), 0, last));
        }
    }

    private static void refusesLasts(Check check, Asked asked) {
        Bothfaces three = Looms.standing(Looms.plain(1), 3);
        int[] wrong = {2, 1, 0, -1, 40, 41, Integer.MIN_VALUE, Integer.MAX_VALUE};
        for (int last : wrong) {
            check.fails("up to " + last, OUT_OF_RANGE, () -> asked.of(three, 0, last));
        }
        Bothfaces full = Looms.standing(Looms.plain(1), 40);
        for (int last = -1; last < 43; last++) {
            int number = last;
            check.fails("40 picks, up to " + last, OUT_OF_RANGE, () -> asked.of(full, 0, number));
        }
        full.unweave();
        check.passes("39 picks", () -> asked.of(full, 0, 39));
    }

    private static void noCard(Check check, Asked asked) {
        check.fails("without cards", NO_SUCH, () -> asked.of(new Bothfaces(), 0, 0));
        check.range(NO_SUCH, 0, 0, card -> asked.of(Looms.plain(1), card, 0));
        check.range(NO_SUCH, 0, 15, card -> asked.of(Looms.plain(16), card, 39));
    }

    private static void refusesWithoutPlan(Check check, Asked asked) {
        Bothfaces x = Looms.of(0, 1, 2, 3);
        x.setGround(false, 3);
        x.setGround(true, 1);
        check.passes("one turn back", () -> asked.of(x, 0, 0));
        check.fails("never two", NONE, () -> asked.of(x, 0, 1));
        check.fails("never forty", NONE, () -> asked.of(x, 0, 39));
        x.slip(0, 1);
        check.fails("not from the hole 1", NONE, () -> asked.of(x, 0, 0));
        Bothfaces end = Looms.standing(Looms.plain(1), 39);
        check.passes("the last pick", () -> asked.of(end, 0, 39));
        end.setGround(true, 1);
        check.fails("not even that", NONE, () -> asked.of(end, 0, 39));
    }

    private static void upToWhereItCan(Check check) {
        Bothfaces x = withACrossing(4);
        check.no("the hole 0 from there", x.canPlan(0, 0));
        x.turn(0, true);
        check.yes("from the hole 1", x.canPlan(0, 0));
        check.yes("a turn more", x.canPlan(0, 1));
        check.no("two turns more", x.canPlan(0, 2));
        check.no("up to the end", x.canPlan(0, 39));
        Bothfaces last = Looms.standing(Looms.of(0, 1, 0, 1), 39);
        check.no("the last pick", last.canPlan(0, 39));
        last.setGround(false, 1);
        last.setGround(true, 1);
        check.yes("the last pick, as wanted", last.canPlan(0, 39));
    }

    private static void fromNoneTo39Reversals(Check check) {
        Bothfaces x = Looms.of(0, 0, 1, 1);
        x.setGround(true, 1);
        for (int last = 0; last < 40; last++) {
            check.same("up to " + last, x.reversals(0, last), last);
        }
        Looms.turning(x, 1);
        check.same("the turn ahead of the plan is none of it", x.reversals(0, 1), 0);
        check.same("up to 39", x.reversals(0, 39), 38);
        check.same("never any", Looms.plain(1).reversals(0, 39), 0);
    }

    private static void indexFromThePickPutInNext(Check check) {
        Bothfaces x = Looms.of(0, 0, 1, 1);
        x.setGround(true, 1);
        for (int put = 0; put < 40; put++) {
            char first = put % 2 == 0 ? 'f' : 'b';
            check.same("first turn behind " + put, x.planAt(0, 39, 0), first);
            check.same("last turn behind " + put, x.planAt(0, 39, 39 - put), 'b');
            check.fails("no turn behind it", NONE, () -> x.planAt(0, 39, 40 - x.picks()));
            x.weave(39);
        }
    }

    private static void forwardOrBack(Check check) {
        Bothfaces x = Looms.of(0, 0, 1, 1);
        x.setGround(true, 1);
        for (int i = 0; i < 40; i++) {
            check.same("turn " + i, x.planAt(0, 39, i), i % 2 == 0 ? 'f' : 'b');
        }
        x.slip(0, 1);
        for (int i = 0; i < 40; i++) {
            check.same("turn " + i + " from the hole 1", x.planAt(0, 39, i), i % 2 == 0 ? 'b' : 'f');
        }
    }

    private static void refusesTurnsBeyondThePlan(Check check) {
        for (int put = 0; put < 40; put += 13) {
            Bothfaces x = Looms.standing(Looms.plain(1), put);
            int[] lasts = {put, (put + 39) / 2, 39};
            for (int last : lasts) {
                check.range(NONE, 0, last - put, index -> x.planAt(0, last, index));
            }
        }
    }

    private static void byThePlanOrForward(Check check) {
        Bothfaces x = new Bothfaces();
        x.card(0, 1, 2, 0, 's');
        x.card(0, 0, 0, 0, 'z');
        x.card(4, 5, 6, 7, 's');
        x.card(4, 0, 6, 1, 'z');
        for (int card = 0; card < 4; card++) {
            x.setPack(card, card);
        }
        x.setGround(true, 1);
        x.weave(0);
        int[] stands = {3, 1, 1, 1};
        int[] twists = {-1, -1, 1, -1};
        for (int card = 0; card < 4; card++) {
            check.same("stand of " + card, x.at(card), stands[card]);
            check.same("twist of " + card, x.twist(card), twists[card]);
        }
        check.same("it is put in", x.colour(0, 0, false), 0);
        check.same("its back", x.colour(0, 0, true), 1);
        weavesByThePlanUpToTheLastPick(check);
    }

    /** From the hole 1 the best plan up to the pick 1 goes on back; the second pick shows it in the stand. */
    private static void weavesByThePlanUpToTheLastPick(Check check) {
        Bothfaces x = withACrossing(5);
        x.turn(0, true);
        x.weave(2);
        check.same("back to the hole 0", x.at(0), 0);
        x.weave(2);
        check.same("a plan from now on goes forward of like ones", x.at(0), 1);
        x.weave(2);
        check.same("back again", x.at(0), 0);
        check.same("no fault", x.faultsOf(0), 0);
        Bothfaces far = withACrossing(4);
        far.turn(0, true);
        far.weave(2);
        check.same("no plan up to there, so forward", far.at(0), 2);
    }

    private static void fromNoneToSixteenPlanned(Check check) {
        Bothfaces x = Looms.plain(16);
        check.same("all", x.weave(39), 16);
        x.setGround(false, 7);
        check.same("none", x.weave(39), 0);
        x.setGround(false, 0);
        x.type('a');
        x.draw('a', 4, 7);
        x.motto(true, 11, 2);
        check.same("all but the last one", x.weave(39), 15);
        Looms.standing(x, 36);
        check.same("the last pick", x.weave(39), 16);
        check.same("40 are in", x.picks(), 40);
    }
}
