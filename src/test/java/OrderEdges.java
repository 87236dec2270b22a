import java.util.NoSuchElementException;

/** Promises 34 to 39, and what the terms say of hands and orders, sentence by sentence. */
final class OrderEdges {
    private static final Class<IndexOutOfBoundsException> NO_SUCH = IndexOutOfBoundsException.class;
    private static final Class<IllegalArgumentException> OUT_OF_RANGE = IllegalArgumentException.class;
    private static final Class<IllegalStateException> FULL = IllegalStateException.class;
    private static final Class<NoSuchElementException> NONE = NoSuchElementException.class;

    private static final String RANGE = "Throws `IllegalArgumentException` if a number is out of range";

    static void all(Sentences says) {
        hands(says);
        ordersInTheTerms(says);
        orders(says);
        days(says);
    }

    private static void hands(Sentences says) {
        says.under("Terms");
        says.needsNoTest("Hands.");
        says.holds("At most 6 weavers are numbered from 0, each with a rate of slips, 0 to 99 in a hundred picks.",
                OrderEdges::sixFromZero);
        says.holds("The hand of a band with some faults is that for whom a hundred times the faults differ least from"
                + " the rate times the picks, of like ones the lowest.", OrderEdges::leastDifference);
        says.under("Promise 34");
        says.needsNoTest("Adds a weaver.");
        says.holds("- `rate`: 0 to 99", OrderEdges::eachRate);
        says.holds("Returns the number.", check -> {
            Bothfaces x = new Bothfaces();
            for (int due = 0; due < 6; due++) {
                check.fails("a refused one has none", OUT_OF_RANGE, () -> x.weaver(100));
                check.same("number", x.weaver(99), due);
            }
        });
        says.holds(RANGE, check -> check.range(OUT_OF_RANGE, 0, 99, rate -> new Bothfaces().weaver(rate)));
        says.holds("Throws `IllegalStateException` if there are 6", check -> {
            Bothfaces x = withWeavers(5, 0);
            check.passes("the sixth", () -> x.weaver(0));
            check.fails("the seventh", FULL, () -> x.weaver(0));
            check.fails("once more", FULL, () -> x.weaver(99));
        });
        says.under("Promise 35");
        says.holds("Returns whose hand it was, by all faults and picks.", OrderEdges::byAllFaultsAndPicks);
        says.holds("Returns the weaver.", OrderEdges::firstOrLastWeaver);
        says.holds("Throws `NoSuchElementException` if there are no weavers, or no picks",
                OrderEdges::refusesWithoutWeaversOrPicks);
    }

    private static void ordersInTheTerms(Sentences says) {
        says.under("Terms");
        says.needsNoTest("Orders.");
        says.holds("At most 8 are numbered from 0, each of 1 to 200 picks, with a price of 1 to 999 and a due day of 1"
                + " to 99.", OrderEdges::eightFromZero);
        says.holds("One loom weaves 10 picks a day, one order behind the other, each begun on a new day, from the day"
                + " 1 on.", OrderEdges::tenPicksADay);
        says.holds("The price falls by a tenth of it, cut, for each day that it is late, 0 at least.",
                OrderEdges::fallsByATenthEachDay);
        says.holds("The told order of work is by due days, of like ones by numbers;",
                OrderEdges::byDueDaysThenNumbers);
        says.holds("the best one brings most.", OrderEdges::bestOfAllRows);
    }

    private static void orders(Sentences says) {
        says.under("Promise 36");
        says.needsNoTest("Adds an order.");
        says.holds("- `picks`: 1 to 200", check -> {
            check.range(OUT_OF_RANGE, 1, 200, picks -> new Bothfaces().order(picks, 1, 1));
            check.same("least", ready(1), 1);
            check.same("most", ready(200), 20);
        });
        says.holds("- `price`: 1 to 999", check -> {
            check.range(OUT_OF_RANGE, 1, 999, price -> new Bothfaces().order(1, price, 1));
            check.same("least", brought(1, 1, 1), 1);
            check.same("most", brought(1, 999, 1), 999);
        });
        says.holds("- `due`: 1 to 99", check -> {
            check.range(OUT_OF_RANGE, 1, 99, due -> new Bothfaces().order(1, 1, due));
            check.same("least", brought(20, 100, 1), 90);
            check.same("most", brought(200, 100, 99), 100);
        });
        says.holds("Returns its number.", check -> {
            Bothfaces x = new Bothfaces();
            for (int due = 0; due < 8; due++) {
                check.fails("a refused one has none", OUT_OF_RANGE, () -> x.order(201, 1, 1));
                check.same("number", x.order(200, 999, 99 - due), due);
            }
        });
        says.holds(RANGE, OrderEdges::refusesEachNumber);
        says.holds("Throws `IllegalStateException` if there are 8", check -> {
            Bothfaces x = withOrders(7);
            check.passes("the eighth", () -> x.order(1, 1, 1));
            check.fails("the ninth", FULL, () -> x.order(1, 1, 1));
            check.fails("once more", FULL, () -> x.order(200, 999, 99));
        });
    }

    private static void days(Sentences says) {
        says.under("Promise 37");
        says.needsNoTest("Returns on which day an order is ready by the told order of work.", "- `order`: the order");
        says.holds("Returns the day.", OrderEdges::fromTheFirstToTheLastDay);
        says.holds("Throws `IndexOutOfBoundsException` if there is no such order", check -> {
            check.fails("without orders", NO_SUCH, () -> new Bothfaces().readyOn(0));
            check.range(NO_SUCH, 0, 0, order -> withOrders(1).readyOn(order));
            check.range(NO_SUCH, 0, 7, order -> withOrders(8).readyOn(order));
        });
        says.under("Promise 38");
        says.needsNoTest("Returns what all orders bring by the told order of work.");
        says.holds("Returns the sum.", OrderEdges::fromNothingToAllPrices);
        says.under("Promise 39");
        says.needsNoTest("Returns what all orders bring at most.");
        says.holds("Returns the sum.", OrderEdges::mostFromNothingToAllPrices);
    }

    private static Bothfaces withWeavers(int weavers, int rate) {
        Bothfaces x = new Bothfaces();
        for (int i = 0; i < weavers; i++) {
            x.weaver(rate);
        }
        return x;
    }

    private static Bothfaces withOrders(int orders) {
        Bothfaces x = new Bothfaces();
        for (int i = 0; i < orders; i++) {
            x.order(10, 10, 10);
        }
        return x;
    }

    private static int ready(int picks) {
        Bothfaces x = new Bothfaces();
        x.order(picks, 1, 1);
        return x.readyOn(0);
    }

    private static int brought(int picks, int price, int due) {
        Bothfaces x = new Bothfaces();
        x.order(picks, price, due);
        return x.brings();
    }

    private static void sixFromZero(Check check) {
        Bothfaces x = Looms.standing(Looms.plain(1), 1);
        for (int i = 0; i < 6; i++) {
            check.same("number", x.weaver(99 - i), i);
            check.same("the least rate is the last one's", x.hand(), i);
        }
        check.fails("a seventh", FULL, () -> x.weaver(0));
        check.same("the sixth", x.hand(), 5);
    }

    /** A band of one card with so many faults on its front in so many picks. */
    private static Bothfaces faulty(int faults, int picks) {
        Bothfaces x = Looms.of(0, 1, 0, 0);
        Looms.standing(x, picks - faults);
        x.turn(0, true);
        return Looms.standing(x, faults);
    }

    private static int handOf(int faults, int picks, int... rates) {
        Bothfaces x = faulty(faults, picks);
        for (int rate : rates) {
            x.weaver(rate);
        }
        return x.hand();
    }

    private static void leastDifference(Check check) {
        check.same("no fault", handOf(0, 40, 1, 0, 2), 1);
        check.same("exactly so", handOf(1, 4, 24, 26, 25), 2);
        check.same("as far below as above, below first", handOf(1, 2, 49, 51), 0);
        check.same("as far below as above, above first", handOf(1, 2, 51, 49), 0);
        check.same("of like rates the lowest", handOf(1, 2, 0, 50, 50, 50), 1);
        check.same("a third, 33", handOf(1, 3, 34, 33), 1);
        check.same("two thirds, 67", handOf(2, 3, 66, 67), 1);
        check.same("one in forty, as near to 3 as to 2", handOf(1, 40, 5, 0, 3, 2), 2);
        check.same("all picks, 99", handOf(40, 40, 98, 99), 1);
    }

    private static void eachRate(Check check) {
        for (int rate = 0; rate < 99; rate++) {
            Bothfaces x = faulty(0, 1);
            x.weaver(rate + 1);
            x.weaver(rate);
            check.same("the rate " + rate, x.hand(), 1);
        }
        Bothfaces most = faulty(1, 1);
        most.weaver(98);
        most.weaver(99);
        check.same("the rate 99", most.hand(), 1);
    }

    private static void byAllFaultsAndPicks(Check check) {
        Bothfaces x = Looms.plain(16);
        x.weaver(0);
        x.weaver(99);
        x.pick();
        check.same("no fault", x.hand(), 0);
        x.setGround(true, 1);
        check.same("sixteen on the back of a pick", x.hand(), 1);
        x.setGround(true, 0);
        Bothfaces both = Looms.standing(Looms.of(1, 0, 1, 0), 1);
        both.slip(0, 1);
        Looms.standing(both, 3);
        both.weaver(25);
        both.weaver(50);
        check.same("two faces of one pick in four", both.hand(), 1);
        both.unweave();
        both.unweave();
        check.same("two faces of one pick in two", both.hand(), 1);
        both.unweave();
        both.unweave();
        check.fails("no pick", NONE, () -> both.hand());
    }

    private static void firstOrLastWeaver(Check check) {
        for (int best = 0; best < 6; best++) {
            Bothfaces x = faulty(1, 2);
            for (int i = 0; i < 6; i++) {
                x.weaver(i == best ? 50 : 51 + i);
            }
            check.same("the one", x.hand(), best);
        }
    }

    private static void refusesWithoutWeaversOrPicks(Check check) {
        check.fails("without both", NONE, () -> new Bothfaces().hand());
        check.fails("without weavers", NONE, () -> Looms.standing(Looms.plain(1), 1).hand());
        check.fails("without picks", NONE, () -> withWeavers(6, 0).hand());
        Bothfaces x = withWeavers(1, 0);
        x.card(0, 0, 0, 0, 's');
        check.fails("with a card, without picks", NONE, () -> x.hand());
        x.pick();
        check.same("with a pick", x.hand(), 0);
        x.unweave();
        check.fails("it is taken out", NONE, () -> x.hand());
    }

    private static void eightFromZero(Check check) {
        Bothfaces x = new Bothfaces();
        for (int i = 0; i < 8; i++) {
            int number = i;
            check.fails("not there yet: " + i, NO_SUCH, () -> x.readyOn(number));
            check.same("number", i % 2 == 0 ? x.order(200, 999, 99) : x.order(1, 1, 1), i);
            check.passes("there by now: " + i, () -> x.readyOn(number));
        }
        check.fails("a ninth", FULL, () -> x.order(1, 1, 1));
        check.fails("the order 8", NO_SUCH, () -> x.readyOn(8));
    }

    private static void tenPicksADay(Check check) {
        for (int picks = 1; picks <= 200; picks++) {
            int due = 1;
            for (int woven = 10; woven < picks; woven += 10) {
                due++;
            }
            check.same(picks + " picks", ready(picks), due);
        }
        Bothfaces x = new Bothfaces();
        int[] picks = {1, 9, 10, 11, 20, 21, 1, 200};
        int[] due = {1, 2, 3, 5, 7, 10, 11, 31};
        for (int i = 0; i < 8; i++) {
            x.order(picks[i], 1, 1);
            check.same("begun on a new day: " + i, x.readyOn(i), due[i]);
        }
    }

    private static void fallsByATenthEachDay(Check check) {
        check.same("ahead of its day", brought(10, 100, 2), 100);
        check.same("on its day", brought(20, 100, 2), 100);
        check.same("a day late", brought(30, 100, 2), 90);
        check.same("nine days late", brought(110, 100, 2), 10);
        check.same("ten days late", brought(120, 100, 2), 0);
        check.same("eleven days late", brought(130, 100, 2), 0);
        check.same("19 days late", brought(200, 999, 1), 0);
        check.same("a tenth of 19 is 1", brought(20, 19, 1), 18);
        check.same("a tenth of 19, 18 times", brought(190, 19, 1), 1);
        check.same("a tenth of 19, 19 times", brought(200, 19, 1), 0);
        check.same("a tenth of 18, 19 times", brought(200, 18, 1), 0);
        check.same("a tenth of 10 is 1", brought(100, 10, 1), 1);
        check.same("a tenth of 9 is none", brought(200, 9, 1), 9);
        check.same("a tenth of 1 is none", brought(200, 1, 1), 1);
        check.same("a tenth of 999 is 99, ten times", brought(110, 999, 1), 9);
        check.same("eleven times", brought(120, 999, 1), 0);
    }

    private static void byDueDaysThenNumbers(Check check) {
        Bothfaces x = new Bothfaces();
        int[] dues = {99, 1, 50, 1, 99, 50, 1, 2};
        int[] ready = {7, 1, 5, 2, 8, 6, 3, 4};
        for (int due : dues) {
            x.order(10, 1, due);
        }
        for (int i = 0; i < 8; i++) {
            check.same("order " + i, x.readyOn(i), ready[i]);
        }
    }

    private static void bestOfAllRows(Check check) {
        Bothfaces x = new Bothfaces();
        x.order(200, 9, 1);
        x.order(10, 100, 1);
        check.same("as told", x.brings(), 9);
        check.same("the other one first", x.bringsMost(), 109);
        Bothfaces three = new Bothfaces();
        three.order(100, 100, 10);
        three.order(100, 500, 11);
        three.order(10, 30, 20);
        check.same("as told, nine days and one late", three.brings(), 100 + 50 + 27);
        check.same("the second one first, then the third one", three.bringsMost(), 500 + 30 + 0);
        Bothfaces most = new Bothfaces();
        for (int i = 0; i < 8; i++) {
            most.order(10, 100 * (i + 1), 1);
        }
        check.same("eight, as told", most.brings(), 100 + 180 + 240 + 280 + 300 + 300 + 280 + 240);
        check.same("eight, the dearest ones first", most.bringsMost(), 800 + 630 + 480 + 350 + 240 + 150 + 80 + 30);
    }

    private static void refusesEachNumber(Check check) {
        Bothfaces x = new Bothfaces();
        int[] wrong = {0, -1, Integer.MIN_VALUE, Integer.MAX_VALUE};
        for (int number : wrong) {
            check.fails("picks " + number, OUT_OF_RANGE, () -> x.order(number, 1, 1));
            check.fails("price " + number, OUT_OF_RANGE, () -> x.order(1, number, 1));
            check.fails("due " + number, OUT_OF_RANGE, () -> x.order(1, 1, number));
            check.fails("all " + number, OUT_OF_RANGE, () -> x.order(number, number, number));
        }
        check.fails("picks 201", OUT_OF_RANGE, () -> x.order(201, 1, 1));
        check.fails("price 1000", OUT_OF_RANGE, () -> x.order(1, 1000, 1));
        check.fails("due 100", OUT_OF_RANGE, () -> x.order(1, 1, 100));
        check.same("none was added", x.order(1, 1, 1), 0);
    }

    private static void fromTheFirstToTheLastDay(Check check) {
        Bothfaces x = new Bothfaces();
        for (int i = 0; i < 8; i++) {
            x.order(200, 1, 99);
        }
        check.same("the first one", x.readyOn(0), 20);
        check.same("the last one", x.readyOn(7), 160);
        check.same("the first day", ready(10), 1);
    }

    private static void fromNothingToAllPrices(Check check) {
        check.same("without orders", new Bothfaces().brings(), 0);
        Bothfaces x = new Bothfaces();
        for (int i = 0; i < 8; i++) {
            x.order(10, 999, 8);
        }
        check.same("all prices", x.brings(), 7992);
        Bothfaces none = new Bothfaces();
        for (int i = 0; i < 8; i++) {
            none.order(200, 990, 1);
        }
        check.same("nothing at all", none.brings(), 0);
    }

    private static void mostFromNothingToAllPrices(Check check) {
        check.same("without orders", new Bothfaces().bringsMost(), 0);
        Bothfaces x = new Bothfaces();
        for (int i = 0; i < 8; i++) {
            x.order(10, 999, 8);
        }
        check.same("all prices", x.bringsMost(), 7992);
        check.same("all prices once more", x.bringsMost(), 7992);
        Bothfaces none = new Bothfaces();
        for (int i = 0; i < 8; i++) {
            none.order(200, 990, 1);
        }
        check.same("nothing at all", none.bringsMost(), 0);
        Bothfaces grows = new Bothfaces();
        for (int i = 1; i <= 8; i++) {
            grows.order(10, 1, 99);
            check.same("as many as there are", grows.bringsMost(), i);
        }
    }
}
