import java.util.NoSuchElementException;

/** Promises 1 to 8, and what the terms say of cards, sentence by sentence. */
final class CardEdges {
    private static final Class<IndexOutOfBoundsException> NO_SUCH = IndexOutOfBoundsException.class;
    private static final Class<IllegalArgumentException> OUT_OF_RANGE = IllegalArgumentException.class;

    static void all(Sentences says) {
        terms(says);
        newObjectAndCard(says);
        packsAndTurns(says);
        standsAndTwist(says);
    }

    private static void terms(Sentences says) {
        says.under("Terms");
        says.needsNoTest("Cards.");
        says.holds("At most 16 are numbered from 0, side by side.", CardEdges::sixteenFromZero);
        says.holds("A card has four holes, 0 to 3, each with a thread of a colour, 0 to 7;", CardEdges::fourHoles);
        says.holds("it stands at one of them, 0 at first, which is above, the one 2 farther on, by 4, is below.",
                CardEdges::belowIsTwoOnByFour);
        says.holds("A turn forward makes it stand 1 farther on, a turn back 1 less, by 4.", CardEdges::turnsByFour);
        says.holds("It is threaded by one of two likes: 's', by which a turn forward makes the twist of its threads"
                + " 1 more and one back 1 less, or 'z', the other way;", CardEdges::twistsEitherWay);
        says.holds("the twist is 0 at first.", CardEdges::noTwistAtFirst);
        says.holds("Each card is in a pack, 0 to 3, 0 at first.", CardEdges::packZeroAtFirst);
        says.holds("A card can slip, a quarter forward or back, or a half, which changes where it stands, but no"
                + " twist.", CardEdges::slipsByFourWithoutTwist);
    }

    private static void newObjectAndCard(Sentences says) {
        says.under("Promise 1");
        says.holds("Creates a loom without cards, picks, mottoes, weavers and orders.", CardEdges::newLoom);
        says.under("Promise 2");
        says.needsNoTest("Adds a card.");
        says.holds("- `one`: 0 to 7, of the hole 0", check -> colourOf(check, 0));
        says.holds("- `two`: 0 to 7, of the hole 1", check -> colourOf(check, 1));
        says.holds("- `three`: 0 to 7, of the hole 2", check -> colourOf(check, 2));
        says.holds("- `four`: 0 to 7, of the hole 3", check -> colourOf(check, 3));
        says.holds("- `like`: 's' or 'z'", CardEdges::onlyTwoLikes);
        says.holds("Returns its number.", CardEdges::firstAndLastNumber);
        says.holds("Throws `IllegalArgumentException` if a number is out of range, or there is no such like",
                CardEdges::refusesNumbersAndLikes);
        says.holds("Throws `UnsupportedOperationException` if there is a pick", CardEdges::refusesBehindAPick);
        says.holds("Throws `IllegalStateException` if there are 16", CardEdges::refusesASeventeenth);
    }

    private static void packsAndTurns(Sentences says) {
        says.under("Promise 3");
        says.needsNoTest("Puts a card into a pack.", "- `card`: the card");
        says.holds("- `pack`: 0 to 3", CardEdges::eachPackForACard);
        says.holds("Returns the pack before.", CardEdges::packBefore);
        says.holds("Throws `IndexOutOfBoundsException` if there is no such card", check -> {
            check.fails("without cards", NO_SUCH, () -> new Bothfaces().setPack(0, 0));
            check.range(NO_SUCH, 0, 2, card -> Looms.withCards(3).setPack(card, 3));
        });
        says.holds("Throws `IllegalArgumentException` if a number is out of range",
                check -> check.range(OUT_OF_RANGE, 0, 3, pack -> Looms.withCards(3).setPack(2, pack)));
        says.under("Promise 4");
        says.holds("Turns all cards of a pack.", CardEdges::allCardsOfThePackAlone);
        says.holds("- `pack`: 0 to 3", CardEdges::eachPackTurns);
        says.needsNoTest("- `isForward`: whether forward, otherwise back");
        says.holds("Returns how many cards turn.", CardEdges::fromNoneToSixteenTurn);
        says.holds("Throws `IllegalArgumentException` if a number is out of range", check -> {
            check.range(OUT_OF_RANGE, 0, 3, pack -> Looms.withCards(3).turn(pack, true));
            check.range(OUT_OF_RANGE, 0, 3, pack -> new Bothfaces().turn(pack, false));
        });
    }

    private static void standsAndTwist(Sentences says) {
        says.under("Promise 5");
        says.needsNoTest("Returns where a card stands.", "- `card`: the card");
        says.holds("Returns the hole.", CardEdges::eachHole);
        says.holds("Throws `IndexOutOfBoundsException` if there is no such card", check -> {
            check.fails("without cards", NO_SUCH, () -> new Bothfaces().at(0));
            check.range(NO_SUCH, 0, 0, card -> Looms.withCards(1).at(card));
            check.range(NO_SUCH, 0, 15, card -> Looms.withCards(16).at(card));
        });
        says.under("Promise 6");
        says.needsNoTest("Returns the twist of a card.", "- `card`: the card");
        says.holds("Returns the twist, perhaps below 0.", CardEdges::farAboveAndBelowZero);
        says.holds("Throws `IndexOutOfBoundsException` if there is no such card", check -> {
            check.fails("without cards", NO_SUCH, () -> new Bothfaces().twist(0));
            check.range(NO_SUCH, 0, 0, card -> Looms.withCards(1).twist(card));
            check.range(NO_SUCH, 0, 15, card -> Looms.withCards(16).twist(card));
        });
        says.under("Promise 7");
        says.holds("Returns the greatest twist of all cards, without signs.", CardEdges::greatestWithoutSign);
        says.holds("Returns the number, 0 without cards.", CardEdges::noneWithoutCards);
        says.under("Promise 8");
        says.needsNoTest("Lets a card slip.", "- `card`: the card");
        says.holds("- `quarters`: -1, 1 or 2", CardEdges::eachSlip);
        says.holds("Returns where it stands then.", CardEdges::slipsRound);
        says.holds("Throws `IndexOutOfBoundsException` if there is no such card", check -> {
            check.fails("without cards", NO_SUCH, () -> new Bothfaces().slip(0, 1));
            check.range(NO_SUCH, 0, 2, card -> Looms.withCards(3).slip(card, -1));
        });
        says.holds("Throws `IllegalArgumentException` if it is none of these", CardEdges::refusesOtherSlips);
    }

    private static void sixteenFromZero(Check check) {
        Bothfaces x = new Bothfaces();
        for (int i = 0; i < 16; i++) {
            int number = i;
            check.fails("not there yet: " + i, NO_SUCH, () -> x.at(number));
            check.same("number", x.card(0, 0, 0, 0, 's'), i);
            check.same("there by now: " + i, x.at(i), 0);
        }
        check.fails("one more", IllegalStateException.class, () -> x.card(0, 0, 0, 0, 's'));
        check.fails("the card 16", NO_SUCH, () -> x.at(16));
    }

    private static void fourHoles(Check check) {
        for (int colour = 0; colour < 8; colour++) {
            Bothfaces x = new Bothfaces();
            x.card(colour, 7 - colour, (colour + 3) & 7, (colour + 5) & 7, 's');
            Looms.turning(Looms.standing(x, 1), 4);
            int[] due = {colour, 7 - colour, (colour + 3) & 7, (colour + 5) & 7, colour};
            for (int pick = 0; pick < 5; pick++) {
                check.same("colour " + colour + ", " + pick + " turns", x.colour(0, pick, false), due[pick]);
            }
        }
    }

    private static void belowIsTwoOnByFour(Check check) {
        Bothfaces x = Looms.of(4, 5, 6, 7);
        check.same("at first", x.at(0), 0);
        Looms.turning(Looms.standing(x, 1), 4);
        int[] above = {4, 5, 6, 7, 4};
        int[] below = {6, 7, 4, 5, 6};
        for (int stand = 0; stand < 5; stand++) {
            check.same("above at " + stand, x.colour(0, stand, false), above[stand]);
            check.same("below at " + stand, x.colour(0, stand, true), below[stand]);
        }
        Bothfaces later = Looms.withCards(1);
        later.turn(0, true);
        later.card(0, 1, 2, 3, 'z');
        check.same("a card added behind a turn", later.at(1), 0);
    }

    private static void turnsByFour(Check check) {
        Bothfaces x = Looms.withCards(1);
        x.turn(0, false);
        check.same("back from 0", x.at(0), 3);
        x.turn(0, true);
        check.same("forward from 3", x.at(0), 0);
        int[] forward = {1, 2, 3, 0, 1};
        for (int due : forward) {
            x.turn(0, true);
            check.same("forward", x.at(0), due);
        }
        int[] back = {0, 3, 2, 1, 0, 3};
        for (int due : back) {
            x.turn(0, false);
            check.same("back", x.at(0), due);
        }
        for (int i = 0; i < 401; i++) {
            x.turn(0, false);
        }
        check.same("far back", x.at(0), 2);
    }

    private static void twistsEitherWay(Check check) {
        Bothfaces x = new Bothfaces();
        x.card(0, 0, 0, 0, 's');
        x.card(0, 0, 0, 0, 'z');
        int[] ways = {1, -1, -1, -1, 1, 1, 1, 1, 1, 1, -1};
        int due = 0;
        for (int way : ways) {
            x.turn(0, way > 0);
            due += way;
            check.same("s", x.twist(0), due);
            check.same("z", x.twist(1), -due);
        }
    }

    private static void noTwistAtFirst(Check check) {
        Bothfaces x = new Bothfaces();
        x.card(7, 7, 7, 7, 'z');
        check.same("z", x.twist(0), 0);
        x.turn(0, true);
        x.card(1, 2, 3, 4, 's');
        check.same("s, behind a turn of the other", x.twist(1), 0);
    }

    private static void packZeroAtFirst(Check check) {
        Bothfaces x = Looms.withCards(16);
        for (int card = 0; card < 16; card++) {
            check.same("first pack of " + card, x.setPack(card, 3), 0);
        }
        check.same("all are in the last pack", x.turn(3, true), 16);
        Bothfaces later = Looms.withCards(1);
        later.setPack(0, 3);
        later.card(0, 0, 0, 0, 's');
        check.same("a card added later", later.setPack(1, 0), 0);
    }

    private static void slipsByFourWithoutTwist(Check check) {
        for (int stand = 0; stand < 4; stand++) {
            slipsFrom(check, stand, 1, (stand + 1) % 4);
            slipsFrom(check, stand, -1, (stand + 3) % 4);
            slipsFrom(check, stand, 2, (stand + 2) % 4);
        }
    }

    private static void slipsFrom(Check check, int stand, int quarters, int due) {
        Bothfaces x = new Bothfaces();
        x.card(0, 1, 2, 3, 's');
        x.card(0, 1, 2, 3, 'z');
        for (int i = 0; i < stand; i++) {
            x.turn(0, true);
        }
        x.slip(0, quarters);
        x.slip(1, quarters);
        check.same("from " + stand + " by " + quarters, x.at(0), due);
        check.same("z from " + stand + " by " + quarters, x.at(1), due);
        check.same("twist", x.twist(0), stand);
        check.same("twist of z", x.twist(1), -stand);
    }

    private static void newLoom(Check check) {
        Bothfaces other = Looms.typing(Looms.withCards(16), "ab");
        Looms.draw(other, 'a', 7, 7, 7, 7, 7);
        other.motto(false, 0, 0);
        other.pick();
        other.weaver(1);
        other.order(1, 1, 1);
        Bothfaces x = new Bothfaces();
        check.fails("no card", NO_SUCH, () -> x.at(0));
        check.same("no kind", x.kinds(), 0);
        check.same("no pick", x.picks(), 0);
        check.same("nothing typed", x.wipe(), 0);
        check.same("nothing drawn", x.draw('a', 0, 7), 0);
        check.fails("no order", NO_SUCH, () -> x.readyOn(0));
        check.same("number of the first card", x.card(0, 1, 2, 3, 's'), 0);
        for (int i = 1; i < 5; i++) {
            x.card(0, 1, 2, 3, 's');
        }
        for (int pick = 0; pick < 40; pick++) {
            check.same("no motto on the front", x.wanted(0, pick, false), 0);
            check.same("no motto on the back", x.wanted(4, pick, true), 0);
        }
        x.pick();
        check.fails("no weaver", NoSuchElementException.class, () -> x.hand());
        check.same("number of the first weaver", x.weaver(5), 0);
        check.same("number of the first order", x.order(1, 1, 1), 0);
        check.same("the other loom's picks", other.picks(), 1);
    }

    private static Bothfaces withColour(int hole, int colour) {
        int[] colours = {1, 1, 1, 1};
        colours[hole] = colour;
        return Looms.of(colours[0], colours[1], colours[2], colours[3]);
    }

    private static void colourOf(Check check, int hole) {
        check.range(OUT_OF_RANGE, 0, 7, colour -> withColour(hole, colour));
        for (int colour = 0; colour < 8; colour++) {
            Bothfaces x = Looms.turning(Looms.standing(withColour(hole, colour), 1), 3);
            for (int pick = 0; pick < 4; pick++) {
                check.same("colour " + colour + " at " + pick, x.colour(0, pick, false), pick == hole ? colour : 1);
            }
        }
    }

    private static void onlyTwoLikes(Check check) {
        for (int like = 0; like < 1 << 16; like++) {
            char threaded = (char) like;
            Check.Call call = () -> new Bothfaces().card(0, 7, 0, 7, threaded);
            if (like == 's' || like == 'z') {
                check.passes("like " + like, call);
            } else {
                check.fails("like " + like, OUT_OF_RANGE, call);
            }
        }
    }

    private static void firstAndLastNumber(Check check) {
        check.same("of the first one", new Bothfaces().card(0, 0, 0, 0, 'z'), 0);
        check.same("of the second one", Looms.withCards(1).card(0, 0, 0, 0, 'z'), 1);
        check.same("of the last one", Looms.withCards(15).card(0, 0, 0, 0, 's'), 15);
    }

    private static void refusesNumbersAndLikes(Check check) {
        int[] wrong = {-1, 8, Integer.MIN_VALUE, Integer.MAX_VALUE};
        Bothfaces x = new Bothfaces();
        for (int w : wrong) {
            check.fails("one " + w, OUT_OF_RANGE, () -> x.card(w, 0, 0, 0, 's'));
            check.fails("two " + w, OUT_OF_RANGE, () -> x.card(0, w, 0, 0, 's'));
            check.fails("three " + w, OUT_OF_RANGE, () -> x.card(0, 0, w, 0, 'z'));
            check.fails("four " + w, OUT_OF_RANGE, () -> x.card(0, 0, 0, w, 'z'));
            check.fails("all " + w, OUT_OF_RANGE, () -> x.card(w, w, w, w, 'x'));
        }
        char[] likes = {'r', 't', 'y', '{', 'S', 'Z', 0, 's' + 256, 'z' + 256, 65535};
        for (char like : likes) {
            check.fails("like " + (int) like, OUT_OF_RANGE, () -> x.card(0, 0, 0, 0, like));
        }
        check.same("none was added", x.card(0, 0, 0, 0, 's'), 0);
    }

    private static void refusesBehindAPick(Check check) {
        for (int picks = 1; picks <= 40; picks += 39) {
            Bothfaces x = Looms.standing(Looms.plain(1), picks);
            check.fails("behind " + picks, UnsupportedOperationException.class, () -> x.card(0, 0, 0, 0, 's'));
            for (int i = 0; i < picks; i++) {
                check.fails("still", UnsupportedOperationException.class, () -> x.card(0, 0, 0, 0, 'z'));
                x.unweave();
            }
            check.same("all picks are out", x.card(0, 0, 0, 0, 's'), 1);
        }
        Bothfaces woven = Looms.plain(2);
        woven.weave(5);
        check.fails("a woven pick", UnsupportedOperationException.class, () -> woven.card(0, 0, 0, 0, 's'));
    }

    private static void refusesASeventeenth(Check check) {
        Bothfaces x = Looms.withCards(15);
        check.passes("the sixteenth", () -> x.card(0, 0, 0, 0, 's'));
        check.fails("the seventeenth", IllegalStateException.class, () -> x.card(0, 0, 0, 0, 's'));
        check.fails("once more", IllegalStateException.class, () -> x.card(7, 7, 7, 7, 'z'));
        check.same("sixteen turn", x.turn(0, true), 16);
    }

    private static void eachPackForACard(Check check) {
        check.range(OUT_OF_RANGE, 0, 3, pack -> Looms.withCards(1).setPack(0, pack));
        for (int pack = 0; pack < 4; pack++) {
            Bothfaces x = Looms.withCards(16);
            x.setPack(15, pack);
            for (int other = 0; other < 4; other++) {
                int due = (other == pack ? 1 : 0) + (other == 0 ? 15 : 0);
                check.same("card in " + pack + ", turn of " + other, x.turn(other, true), due);
            }
        }
    }

    private static void packBefore(Check check) {
        Bothfaces x = Looms.withCards(2);
        int[] packs = {3, 3, 0, 2, 1, 0, 0};
        int before = 0;
        for (int pack : packs) {
            check.same("before " + pack, x.setPack(1, pack), before);
            before = pack;
        }
        check.fails("pack 4", OUT_OF_RANGE, () -> x.setPack(1, 4));
        check.same("a refused one is none", x.setPack(1, 3), 0);
        check.same("the other card's", x.setPack(0, 1), 0);
    }

    private static void allCardsOfThePackAlone(Check check) {
        Bothfaces x = Looms.withCards(16);
        x.setPack(1, 2);
        x.setPack(7, 2);
        x.setPack(8, 3);
        x.turn(0, true);
        x.turn(2, false);
        for (int card = 0; card < 16; card++) {
            int due = card == 1 || card == 7 ? 3 : card == 8 ? 0 : 1;
            check.same("stand of " + card, x.at(card), due);
        }
    }

    private static void eachPackTurns(Check check) {
        check.range(OUT_OF_RANGE, 0, 3, pack -> Looms.withCards(1).turn(pack, true));
        for (int pack = 0; pack < 4; pack++) {
            Bothfaces x = Looms.withCards(4);
            for (int card = 0; card < 4; card++) {
                x.setPack(card, card);
            }
            check.same("one turns", x.turn(pack, true), 1);
            for (int card = 0; card < 4; card++) {
                check.same("pack " + pack + ", card " + card, x.at(card), card == pack ? 1 : 0);
            }
        }
    }

    private static void fromNoneToSixteenTurn(Check check) {
        check.same("without cards", new Bothfaces().turn(0, true), 0);
        Bothfaces x = Looms.withCards(16);
        for (int moved = 0; moved <= 16; moved++) {
            check.same("pack 0", x.turn(0, true), 16 - moved);
            check.same("pack 1", x.turn(1, false), moved);
            check.same("pack 3, empty", x.turn(3, false), 0);
            if (moved < 16) {
                x.setPack(moved, 1);
            }
        }
    }

    private static void eachHole(Check check) {
        Bothfaces x = Looms.withCards(16);
        int[] due = {1, 2, 3, 0};
        for (int hole : due) {
            x.slip(15, 1);
            check.same("the last card", x.at(15), hole);
            check.same("the first card", x.at(0), 0);
        }
    }

    private static void farAboveAndBelowZero(Check check) {
        Bothfaces x = new Bothfaces();
        x.card(0, 0, 0, 0, 's');
        x.card(0, 0, 0, 0, 'z');
        for (int i = 0; i < 300; i++) {
            x.turn(0, false);
        }
        check.same("s", x.twist(0), -300);
        check.same("z", x.twist(1), 300);
        x.slip(0, 2);
        check.same("slipped", x.twist(0), -300);
    }

    private static void greatestWithoutSign(Check check) {
        Bothfaces x = new Bothfaces();
        for (int i = 0; i < 16; i++) {
            x.card(0, 0, 0, 0, 's');
        }
        check.same("none is twisted", x.mostTwist(), 0);
        x.setPack(15, 1);
        x.turn(1, false);
        check.same("the last one, below 0", x.mostTwist(), 1);
        x.turn(0, true);
        x.turn(0, true);
        check.same("others, above 0", x.mostTwist(), 2);
        x.turn(1, false);
        x.turn(1, false);
        check.same("the last one again", x.mostTwist(), 3);
        x.setPack(0, 2);
        for (int i = 0; i < 6; i++) {
            x.turn(2, false);
        }
        check.same("the first one", x.mostTwist(), 4);
    }

    private static void noneWithoutCards(Check check) {
        Bothfaces x = new Bothfaces();
        check.same("without cards", x.mostTwist(), 0);
        x.turn(0, true);
        check.same("nothing turned", x.mostTwist(), 0);
    }

    private static void eachSlip(Check check) {
        int[] quarters = {-1, 1, 2};
        int[] due = {3, 1, 2};
        for (int i = 0; i < 3; i++) {
            Bothfaces x = Looms.withCards(2);
            x.slip(1, quarters[i]);
            check.same("by " + quarters[i], x.at(1), due[i]);
            check.same("the other card", x.at(0), 0);
        }
    }

    private static void slipsRound(Check check) {
        Bothfaces x = Looms.withCards(1);
        int[] quarters = {-1, -1, 1, 1, 2, 2, -1, 2, 1, 1, 1, 2, -1};
        int[] due = {3, 2, 3, 0, 2, 0, 3, 1, 2, 3, 0, 2, 1};
        for (int i = 0; i < due.length; i++) {
            check.same("slip " + i, x.slip(0, quarters[i]), due[i]);
            check.same("stands behind slip " + i, x.at(0), due[i]);
        }
    }

    private static void refusesOtherSlips(Check check) {
        for (int quarters = -300; quarters <= 300; quarters++) {
            refusesSlip(check, quarters);
        }
        int[] far = {Integer.MIN_VALUE, Integer.MIN_VALUE + 2, (1 << 16) + 1, (1 << 16) - 1, Integer.MAX_VALUE};
        for (int quarters : far) {
            refusesSlip(check, quarters);
        }
    }

    private static void refusesSlip(Check check, int quarters) {
        Bothfaces x = Looms.withCards(1);
        if (quarters == -1 || quarters == 1 || quarters == 2) {
            check.passes("by " + quarters, () -> x.slip(0, quarters));
        } else {
            check.fails("by " + quarters, OUT_OF_RANGE, () -> x.slip(0, quarters));
            check.same("still", x.at(0), 0);
        }
    }
}
