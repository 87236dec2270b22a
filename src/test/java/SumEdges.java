import java.math.BigInteger;

/** Promises 40 to 43, sentence by sentence. */
final class SumEdges {
    private static final Class<ArithmeticException> NONE = ArithmeticException.class;

    private static BigInteger sum;

    static void all(Sentences says) {
        says.under("Promise 40");
        says.needsNoTest("Returns a sum over the band.");
        says.holds("Returns 7 at first, then for each card 31 times itself plus where it stands, then 31 times itself"
                + " plus its twist;", SumEdges::fromSevenOverAllCards);
        says.holds("then for each pick, for each card 31 times itself plus the colour of the front, then 31 times"
                + " itself plus that of the back;", SumEdges::overAllPicksAndRound);
        says.holds("then 31 times itself plus how many orders there are.", SumEdges::withNoneToEightOrders);
        says.under("Promise 41");
        says.holds("Returns the share of squares of picks without a fault on either face.", SumEdges::rightOnBothFaces);
        says.holds("Returns their number divided by that of all, both converted to float.", SumEdges::dividedAsFloats);
        says.holds("Throws `ArithmeticException` if there are none", SumEdges::refusesWithoutSquares);
        says.under("Promise 42");
        says.needsNoTest("Returns the mean twist of cards.");
        says.holds("Returns the sum divided by their number, both converted to double.", SumEdges::dividedAsDoubles);
        says.holds("Throws `ArithmeticException` if there are none", check -> {
            Bothfaces x = new Bothfaces();
            check.fails("without cards", NONE, () -> x.meanTwist());
            x.turn(0, true);
            check.fails("a turn of none", NONE, () -> x.meanTwist());
            x.card(0, 0, 0, 0, 's');
            check.sameDouble("one card, without picks", x.meanTwist(), 0);
        });
        says.under("Promise 43");
        says.holds("Checks the band: at each pick the front and the back of a card are of two holes that lie 2"
                + " apart;", SumEdges::soundAtEachStand);
        says.holds("a card that is planned, woven by its plan, has no fault;", SumEdges::soundAndWithoutFault);
        says.holds("and yarn of all colours is that of all threads.", SumEdges::yarnOfAllColours);
        says.holds("Returns whether all of this holds.", SumEdges::soundFromEmptyToFull);
    }

    private static void begin() {
        sum = BigInteger.valueOf(7);
    }

    private static void plus(long number) {
        sum = sum.multiply(BigInteger.valueOf(31)).add(BigInteger.valueOf(number));
    }

    private static void fromSevenOverAllCards(Check check) {
        check.same("7, and no orders", new Bothfaces().checksum(), 217);
        Bothfaces x = new Bothfaces();
        begin();
        for (int i = 0; i < 16; i++) {
            x.card(7, 7, 7, 7, i < 5 ? 's' : 'z');
            x.setPack(i, i & 3);
        }
        for (int i = 0; i < 30; i++) {
            x.turn(1, true);
            x.turn(2, false);
        }
        x.slip(15, 2);
        for (int i = 0; i < 16; i++) {
            int turns = (i & 3) == 1 ? 30 : (i & 3) == 2 ? -30 : 0;
            plus(i == 15 ? 2 : (turns + 40) % 4);
            plus(i < 5 ? turns : -turns);
        }
        plus(0);
        check.same("sixteen cards, round beyond the greatest number", x.checksum(), sum.longValue());
        check.yes("it goes round", sum.bitLength() > 64);
        Bothfaces below = Looms.plain(1);
        below.turn(0, false);
        begin();
        plus(3);
        plus(-1);
        plus(0);
        check.same("a twist below 0", below.checksum(), sum.longValue());
    }

    private static void overAllPicksAndRound(Check check) {
        Bothfaces x = new Bothfaces();
        for (int i = 0; i < 16; i++) {
            x.card(i & 7, 0, 7, i >> 1, 's');
        }
        Looms.turning(x, 40);
        begin();
        for (int i = 0; i < 16; i++) {
            plus(0);
            plus(40);
        }
        for (int pick = 0; pick < 40; pick++) {
            for (int i = 0; i < 16; i++) {
                int[] threads = {i & 7, 0, 7, i >> 1};
                plus(threads[(pick + 1) % 4]);
                plus(threads[(pick + 3) % 4]);
            }
        }
        plus(0);
        check.same("all squares", x.checksum(), sum.longValue());
        Bothfaces two = Looms.of(1, 2, 3, 4);
        two.pick();
        two.turn(0, true);
        begin();
        int[] due = {1, 1, 1, 3, 0};
        for (int number : due) {
            plus(number);
        }
        check.same("stands as it does now, shows as it did", two.checksum(), sum.longValue());
    }

    private static void withNoneToEightOrders(Check check) {
        Bothfaces x = new Bothfaces();
        for (int orders = 0; orders <= 8; orders++) {
            check.same(orders + " orders", x.checksum(), 217 + orders);
            if (orders < 8) {
                x.order(200, 999, 99);
            }
        }
        check.fails("a ninth", IllegalStateException.class, () -> x.order(1, 1, 1));
        check.same("a refused one does not count", x.checksum(), 225);
    }

    private static void rightOnBothFaces(Check check) {
        Bothfaces x = new Bothfaces();
        x.card(1, 0, 0, 0, 's');
        x.card(0, 0, 1, 0, 's');
        x.card(1, 0, 1, 0, 's');
        x.card(0, 1, 0, 1, 's');
        x.pick();
        check.sameDouble("one in four", x.rightShare(), 0.25);
        x.turn(0, true);
        x.pick();
        check.sameDouble("four in eight", x.rightShare(), 0.5);
        x.setGround(true, 7);
        check.sameDouble("none", x.rightShare(), 0);
        check.sameDouble("all of 640", Looms.standing(Looms.plain(16), 40).rightShare(), 1);
    }

    private static void dividedAsFloats(Check check) {
        for (int picks = 1; picks <= 40; picks++) {
            Bothfaces x = Looms.of(0, 1, 0, 0);
            x.pick();
            x.turn(0, true);
            Looms.standing(x, picks - 1);
            check.sameDouble("one of " + picks, x.rightShare(), 1f / picks);
        }
    }

    private static void refusesWithoutSquares(Check check) {
        check.fails("without cards", NONE, () -> new Bothfaces().rightShare());
        Bothfaces x = Looms.plain(16);
        check.fails("without picks", NONE, () -> x.rightShare());
        x.pick();
        check.sameDouble("with a pick", x.rightShare(), 1);
        x.unweave();
        check.fails("it is taken out", NONE, () -> x.rightShare());
    }

    private static void dividedAsDoubles(Check check) {
        Bothfaces x = Looms.plain(3);
        check.sameDouble("none", x.meanTwist(), 0);
        x.setPack(1, 1);
        x.turn(1, true);
        check.sameDouble("a third", x.meanTwist(), 1.0 / 3.0);
        x.turn(1, false);
        x.turn(1, false);
        check.sameDouble("a third below 0", x.meanTwist(), -1.0 / 3.0);
        Bothfaces even = new Bothfaces();
        even.card(0, 0, 0, 0, 's');
        even.card(0, 0, 0, 0, 'z');
        even.turn(0, true);
        check.sameDouble("1 and -1", even.meanTwist(), 0);
        Bothfaces most = Looms.plain(16);
        for (int i = 0; i < 490; i++) {
            most.turn(0, false);
        }
        check.sameDouble("sixteen far below 0", most.meanTwist(), -490);
        most.setPack(15, 1);
        most.turn(1, true);
        check.sameDouble("the last one less", most.meanTwist(), -7839.0 / 16.0);
    }

    private static void soundAtEachStand(Check check) {
        Bothfaces x = new Bothfaces();
        x.card(0, 1, 2, 3, 's');
        x.card(3, 2, 1, 0, 'z');
        int[] quarters = {-1, 2, 1, 1, -1};
        for (int q : quarters) {
            check.yes("before a slip by " + q, x.isSound());
            x.slip(1, q);
            x.turn(0, false);
            x.pick();
            for (int card = 0; card < 2; card++) {
                check.same("front and back of " + card, Math.abs(x.colour(card, x.picks() - 1, false)
                        - x.colour(card, x.picks() - 1, true)), 2);
            }
        }
        check.yes("at last", x.isSound());
    }

    private static void soundAndWithoutFault(Check check) {
        Bothfaces x = Looms.of(0, 0, 1, 1);
        x.setGround(true, 1);
        check.yes("planned to the end", x.isSound());
        for (int i = 0; i < 40; i++) {
            x.weave(39);
        }
        check.yes("woven to the end", x.isSound());
        check.same("no fault", x.faultsOf(0), 0);
        x.setGround(true, 0);
        check.yes("faults of another ground", x.isSound());
        Bothfaces none = Looms.standing(Looms.of(0, 1, 2, 3), 1);
        check.yes("a card that has no plan", none.isSound());
        check.yes("has faults", none.faultsOf(0) > 0);
    }

    private static void yarnOfAllColours(Check check) {
        Bothfaces x = new Bothfaces();
        for (int i = 0; i < 16; i++) {
            x.card(i & 7, 7 - (i & 7), 0, 7, 's');
        }
        Looms.turning(x, 40);
        int all = 0;
        for (int colour = 0; colour < 8; colour++) {
            all += x.yarn(colour);
        }
        check.same("all colours", all, 64 * 40 * 12 + 16 * 39 * 2 * 3);
        check.yes("sound", x.isSound());
    }

    private static void soundFromEmptyToFull(Check check) {
        Bothfaces x = new Bothfaces();
        check.yes("without cards", x.isSound());
        for (int i = 0; i < 16; i++) {
            x.card(0, 0, 0, i & 7, 's');
        }
        check.yes("without picks", x.isSound());
        Looms.typing(x, "abcdefgh");
        x.draw('a', 0, 5);
        x.draw('h', 4, 2);
        x.motto(false, 0, 0);
        x.motto(true, 11, 9);
        for (int picks = 1; picks <= 40; picks++) {
            x.turn(0, picks % 3 != 0);
            x.pick();
            check.yes(picks + " picks", x.isSound());
        }
        long before = x.checksum();
        check.yes("full", x.isSound());
        check.same("asking changes nothing", x.checksum(), before);
    }
}
