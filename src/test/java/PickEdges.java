/** Promises 9 to 14, and what the terms say of picks, sentence by sentence. */
final class PickEdges {
    private static final Class<IndexOutOfBoundsException> NO_SUCH = IndexOutOfBoundsException.class;
    private static final Class<UnsupportedOperationException> UNSUPPORTED = UnsupportedOperationException.class;

    static void all(Sentences says) {
        terms(says);
        puttingInAndOut(says);
        colours(says);
        idleCardsAndFloats(says);
    }

    private static void terms(Sentences says) {
        says.under("Terms");
        says.needsNoTest("At each crossing one thread is above, and what each face shows follows from the turns.",
                "Picks.");
        says.holds("At most 40 are numbered from 0, one behind the other.", PickEdges::fortyFromZero);
        says.holds("Before each packs are turned as one likes;", PickEdges::anyTurnsAhead);
        says.holds("a pick shows on the front the colour above at each card, on the back that below.",
                PickEdges::showsFirstAndLastCard);
        says.holds("A card is idle in a pick if it stands as in the pick ahead of it;", PickEdges::idleByItsStand);
        says.holds("a float is a row of picks one behind the other in which a card stands alike.",
                PickEdges::floatsByTheStand);
        says.holds("To take the last pick out makes all cards stand, and have the twist, as they did when the pick"
                + " ahead of it was put in;", PickEdges::standsAsInThePickAhead);
        says.holds("without one they stay as they are.", PickEdges::staysWithoutAPickAhead);
    }

    private static void puttingInAndOut(Sentences says) {
        says.under("Promise 9");
        says.needsNoTest("Puts a pick in.");
        says.holds("Returns how many there are.", PickEdges::countsUpToForty);
        says.holds("Throws `UnsupportedOperationException` if there are no cards", check -> {
            Bothfaces x = new Bothfaces();
            check.fails("without cards", UNSUPPORTED, () -> x.pick());
            check.fails("once more", UNSUPPORTED, () -> x.pick());
            x.card(0, 0, 0, 0, 's');
            check.same("with one card", x.pick(), 1);
        });
        says.holds("Throws `IllegalStateException` if there are 40", PickEdges::refusesAFortyFirst);
        says.under("Promise 10");
        says.needsNoTest("Takes the last pick out.");
        says.holds("Returns how many are left.", PickEdges::countsDownToNone);
        says.holds("Throws `UnsupportedOperationException` if there is none", check -> {
            Bothfaces x = Looms.plain(1);
            check.fails("none yet", UNSUPPORTED, () -> x.unweave());
            x.pick();
            x.unweave();
            check.fails("none any more", UNSUPPORTED, () -> x.unweave());
            check.fails("without cards", UNSUPPORTED, () -> new Bothfaces().unweave());
        });
        says.under("Promise 11");
        says.needsNoTest("Returns how many picks there are.");
        says.holds("Returns how many.", PickEdges::howManyPicks);
    }

    private static void colours(Sentences says) {
        says.under("Promise 12");
        says.needsNoTest("Returns the colour of a face.", "- `card`: the card", "- `pick`: the pick",
                "- `isBack`: whether the back is meant");
        says.holds("Returns the colour.", PickEdges::coloursOfTheEnds);
        says.holds("Throws `IndexOutOfBoundsException` if there is no such card or pick", check -> {
            check.fails("without cards", NO_SUCH, () -> new Bothfaces().colour(0, 0, false));
            check.fails("without picks", NO_SUCH, () -> Looms.plain(2).colour(1, 0, true));
            check.range(NO_SUCH, 0, 1, card -> twoCardsThreePicks().colour(card, 2, false));
            check.range(NO_SUCH, 0, 2, pick -> twoCardsThreePicks().colour(1, pick, true));
            check.fails("taken out", NO_SUCH, () -> lessOne(twoCardsThreePicks()).colour(1, 2, false));
        });
    }

    private static void idleCardsAndFloats(Sentences says) {
        says.under("Promise 13");
        says.needsNoTest("Tells whether a card is idle in a pick.", "- `card`: the card", "- `pick`: the pick");
        says.holds("Returns whether so, false for the first pick.", PickEdges::neverIdleInTheFirstPick);
        says.holds("Throws `IndexOutOfBoundsException` if there is no such card or pick", check -> {
            check.fails("without cards", NO_SUCH, () -> new Bothfaces().isIdle(0, 0));
            check.fails("without picks", NO_SUCH, () -> Looms.plain(2).isIdle(1, 0));
            check.range(NO_SUCH, 0, 1, card -> twoCardsThreePicks().isIdle(card, 2));
            check.range(NO_SUCH, 0, 2, pick -> twoCardsThreePicks().isIdle(1, pick));
            check.fails("taken out", NO_SUCH, () -> lessOne(twoCardsThreePicks()).isIdle(1, 2));
        });
        says.under("Promise 14");
        says.needsNoTest("Returns how many picks the longest float of a card has.", "- `card`: the card");
        says.holds("Returns how many, 0 without picks.", PickEdges::longestFromNoneToForty);
        says.holds("Throws `IndexOutOfBoundsException` if there is no such card", check -> {
            check.fails("without cards", NO_SUCH, () -> new Bothfaces().longestFloat(0));
            check.range(NO_SUCH, 0, 1, card -> twoCardsThreePicks().longestFloat(card));
            check.range(NO_SUCH, 0, 15, card -> Looms.plain(16).longestFloat(card));
        });
    }

    private static Bothfaces twoCardsThreePicks() {
        return Looms.standing(Looms.plain(2), 3);
    }

    private static Bothfaces lessOne(Bothfaces x) {
        x.unweave();
        return x;
    }

    private static void fortyFromZero(Check check) {
        Bothfaces x = Looms.withCards(1);
        for (int pick = 0; pick < 40; pick++) {
            int number = pick;
            check.fails("not there yet: " + pick, NO_SUCH, () -> x.colour(0, number, false));
            x.turn(0, true);
            x.pick();
            check.same("there by now: " + pick, x.colour(0, pick, false), (pick + 1) % 4);
        }
        check.fails("one more", IllegalStateException.class, () -> x.pick());
        check.fails("the pick 40", NO_SUCH, () -> x.colour(0, 40, false));
        for (int pick = 0; pick < 40; pick++) {
            check.same("one behind the other: " + pick, x.colour(0, pick, true), (pick + 3) % 4);
        }
    }

    private static void anyTurnsAhead(Check check) {
        Bothfaces x = Looms.withCards(1);
        x.pick();
        check.same("none", x.colour(0, 0, false), 0);
        x.turn(0, false);
        x.turn(1, true);
        x.pick();
        check.same("one back, one of an empty pack", x.colour(0, 1, false), 3);
        for (int i = 0; i < 5; i++) {
            x.turn(0, true);
        }
        x.pick();
        check.same("five forward", x.colour(0, 2, false), 0);
        check.same("the picks before stay", x.colour(0, 1, false), 3);
        x.turn(0, true);
        check.same("a turn behind it changes no pick", x.colour(0, 2, false), 0);
    }

    private static void showsFirstAndLastCard(Check check) {
        Bothfaces x = new Bothfaces();
        for (int i = 0; i < 16; i++) {
            x.card(i & 7, 7, 7 - (i & 7), 0, 's');
        }
        x.pick();
        for (int i = 0; i < 16; i++) {
            check.same("front of " + i, x.colour(i, 0, false), i & 7);
            check.same("back of " + i, x.colour(i, 0, true), 7 - (i & 7));
        }
        x.turn(0, false);
        x.pick();
        check.same("front of the last one, turned back", x.colour(15, 1, false), 0);
        check.same("back of the last one, turned back", x.colour(15, 1, true), 7);
        check.same("front of the first one, the pick before", x.colour(0, 0, false), 0);
    }

    private static void idleByItsStand(Check check) {
        Bothfaces x = Looms.plain(16);
        x.setPack(15, 1);
        x.pick();
        x.pick();
        check.yes("nothing turned", x.isIdle(0, 1));
        for (int i = 0; i < 4; i++) {
            x.turn(0, true);
        }
        x.turn(1, false);
        x.pick();
        check.yes("once round", x.isIdle(0, 2));
        check.no("the last card turned, its colours are alike", x.isIdle(15, 2));
        x.slip(0, 2);
        x.turn(1, true);
        x.pick();
        check.no("slipped by a half", x.isIdle(0, 3));
        check.no("as two picks ahead, not as one", x.isIdle(15, 3));
        x.slip(0, 1);
        x.turn(0, false);
        x.pick();
        check.yes("slipped and turned back", x.isIdle(0, 4));
        check.no("the others turned", x.isIdle(1, 4));
    }

    private static void floatsByTheStand(Check check) {
        Bothfaces x = Looms.plain(1);
        Looms.standing(x, 2);
        Looms.turning(x, 1);
        Looms.standing(x, 2);
        x.turn(0, false);
        Looms.standing(x, 2);
        check.same("3 in the middle, like ones apart are two floats", x.longestFloat(0), 3);
        x.slip(0, 2);
        x.slip(0, 2);
        Looms.standing(x, 2);
        check.same("4 at the end, slipped round", x.longestFloat(0), 4);
        x.slip(0, 2);
        Looms.standing(x, 1);
        check.same("a half is not alike, though the colours are", x.longestFloat(0), 4);
    }

    private static void standsAsInThePickAhead(Check check) {
        Bothfaces x = new Bothfaces();
        for (int i = 0; i < 16; i++) {
            x.card(0, 1, 2, 3, i % 2 == 0 ? 's' : 'z');
        }
        x.turn(0, false);
        x.slip(15, 2);
        x.pick();
        x.turn(0, true);
        x.turn(0, true);
        x.pick();
        x.turn(0, true);
        x.slip(0, -1);
        x.unweave();
        for (int i = 0; i < 16; i++) {
            check.same("stand of " + i, x.at(i), i == 15 ? 1 : 3);
            check.same("twist of " + i, x.twist(i), i % 2 == 0 ? -1 : 1);
        }
        x.turn(0, true);
        x.pick();
        check.same("goes on from there", x.colour(0, 1, false), 0);
        x.pick();
        x.pick();
        x.unweave();
        x.unweave();
        check.same("two out", x.at(0), 0);
        x.unweave();
        check.same("three out", x.at(0), 3);
    }

    private static void staysWithoutAPickAhead(Check check) {
        Bothfaces x = new Bothfaces();
        x.card(0, 1, 2, 3, 's');
        x.card(0, 1, 2, 3, 'z');
        x.turn(0, true);
        x.pick();
        x.turn(0, true);
        x.turn(0, true);
        x.slip(1, -1);
        x.unweave();
        check.same("stand", x.at(0), 3);
        check.same("twist", x.twist(0), 3);
        check.same("stand of the one that slipped", x.at(1), 2);
        check.same("twist of the one that slipped", x.twist(1), -3);
        Bothfaces two = Looms.turning(Looms.withCards(1), 2);
        two.unweave();
        two.turn(0, false);
        two.turn(0, false);
        two.unweave();
        check.same("stand, both out", two.at(0), 3);
        check.same("twist, both out", two.twist(0), -1);
    }

    private static void countsUpToForty(Check check) {
        Bothfaces x = Looms.plain(16);
        for (int due = 1; due <= 40; due++) {
            check.same("pick", x.pick(), due);
        }
        x.unweave();
        check.same("the last one again", x.pick(), 40);
        Bothfaces woven = Looms.plain(1);
        woven.weave(39);
        check.same("behind a woven one", woven.pick(), 2);
    }

    private static void refusesAFortyFirst(Check check) {
        Bothfaces x = Looms.standing(Looms.plain(1), 39);
        check.passes("the fortieth", () -> x.pick());
        check.fails("the forty-first", IllegalStateException.class, () -> x.pick());
        check.fails("once more", IllegalStateException.class, () -> x.pick());
        x.unweave();
        check.passes("room again", () -> x.pick());
        check.fails("full again", IllegalStateException.class, () -> x.pick());
    }

    private static void countsDownToNone(Check check) {
        Bothfaces x = Looms.standing(Looms.plain(1), 40);
        for (int due = 39; due >= 0; due--) {
            check.same("left", x.unweave(), due);
        }
    }

    private static void howManyPicks(Check check) {
        Bothfaces x = new Bothfaces();
        check.same("without cards", x.picks(), 0);
        x.card(0, 0, 0, 0, 's');
        check.same("none", x.picks(), 0);
        Looms.standing(x, 40);
        check.same("full", x.picks(), 40);
        check.fails("a pick more", IllegalStateException.class, () -> x.pick());
        check.same("still full", x.picks(), 40);
        for (int i = 0; i < 40; i++) {
            x.unweave();
        }
        check.fails("a pick less", UNSUPPORTED, () -> x.unweave());
        check.same("none again", x.picks(), 0);
        x.weave(39);
        check.same("a woven one", x.picks(), 1);
    }

    private static void coloursOfTheEnds(Check check) {
        Bothfaces x = new Bothfaces();
        for (int i = 0; i < 16; i++) {
            x.card(0, 7, 3, i & 7, 's');
        }
        Looms.turning(x, 40);
        check.same("first card, first pick", x.colour(0, 0, false), 7);
        check.same("its back", x.colour(0, 0, true), 0);
        check.same("last card, first pick, back", x.colour(15, 0, true), 7);
        check.same("last card, last pick", x.colour(15, 39, false), 0);
        check.same("its back", x.colour(15, 39, true), 3);
        check.same("last card, last pick but one", x.colour(15, 38, false), 7);
        check.same("first card, last pick but one, back", x.colour(0, 38, true), 7);
    }

    private static void neverIdleInTheFirstPick(Check check) {
        Bothfaces x = Looms.plain(1);
        x.pick();
        check.no("stands as at first", x.isIdle(0, 0));
        x.pick();
        check.yes("the second one", x.isIdle(0, 1));
        check.no("the first one, behind another", x.isIdle(0, 0));
        x.unweave();
        x.unweave();
        x.pick();
        check.no("the first one anew", x.isIdle(0, 0));
        Looms.standing(x, 39);
        check.yes("the last one of 40", x.isIdle(0, 39));
    }

    private static void longestFromNoneToForty(Check check) {
        Bothfaces x = Looms.plain(16);
        check.same("without picks", x.longestFloat(15), 0);
        for (int due = 1; due <= 40; due++) {
            x.pick();
            check.same("longest", x.longestFloat(15), due);
        }
        for (int i = 0; i < 40; i++) {
            x.unweave();
        }
        check.same("without picks again", x.longestFloat(15), 0);
        check.same("no longer than one", Looms.turning(Looms.plain(1), 40).longestFloat(0), 1);
        Bothfaces first = Looms.turning(Looms.standing(Looms.plain(1), 3), 2);
        check.same("at the first pick", first.longestFloat(0), 3);
        Bothfaces last = Looms.standing(Looms.turning(Looms.plain(1), 3), 2);
        check.same("at the last pick", last.longestFloat(0), 3);
    }
}
