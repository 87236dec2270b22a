import java.util.NoSuchElementException;

/** What the document says of every call: how long an object is good for, and what a refused call does. */
final class WholeEdges {
    private static final Class<IndexOutOfBoundsException> INDEX = IndexOutOfBoundsException.class;
    private static final Class<IllegalArgumentException> ARGUMENT = IllegalArgumentException.class;
    private static final Class<IllegalStateException> STATE = IllegalStateException.class;
    private static final Class<UnsupportedOperationException> UNSUPPORTED = UnsupportedOperationException.class;
    private static final Class<NoSuchElementException> NONE = NoSuchElementException.class;
    private static final Class<ArithmeticException> ARITHMETIC = ArithmeticException.class;

    /** A loom that a call is refused by. */
    private interface Made {
        Bothfaces loom();
    }

    /** A call that is refused. */
    private interface Refused {
        void by(Bothfaces x);
    }

    private static Check check;

    static void all(Sentences says) {
        says.under("What it is");
        says.needsNoTest("A band woven so that it can be read from either side, the calls being those that a Java"
                + " programmer would choose for letters, mottoes, cards, packs, picks, faces, floats, twist, plans,"
                + " slips, faults, mending, yarn, hands and orders: letters drawn on squares, cards of four holes that"
                + " turn a quarter and move all their threads, two faces that must both say what was ordered, rows of"
                + " turns found with fewest reversals and proved impossible where there are none, twist that grows, a"
                + " card that slips and is found by what is seen, missing picks that can be had in several ways, whose"
                + " hand it was, and orders on one loom.", "what later calls answer is free.");
        says.holds("An object is used for at most 512 calls after it has been made;", WholeEdges::lasts512Calls);
        says.under("Terms");
        says.needsNoTest("Exceptions.");
        says.holds("A method that throws an exception changes nothing.", WholeEdges::refusedCallsChangeNothing);
        says.holds("If several conditions of a method apply, the exception that is listed first is thrown.",
                WholeEdges::firstListedIsThrown);
    }

    private static void lasts512Calls(Check c) {
        Bothfaces turned = Looms.plain(1);
        for (int i = 0; i < 510; i++) {
            turned.turn(0, true);
        }
        c.same("the 512th call: twist", turned.twist(0), 510);
        Bothfaces picked = Looms.plain(1);
        for (int i = 0; i < 255; i++) {
            picked.pick();
            picked.unweave();
        }
        c.same("the 512th call: pick", picked.pick(), 1);
        Bothfaces refused = new Bothfaces();
        for (int i = 0; i < 511; i++) {
            c.fails("no card", UNSUPPORTED, () -> refused.pick());
        }
        c.same("the 512th call: card", refused.card(7, 7, 7, 7, 'z'), 0);
    }

    /** Two looms are made alike and one of them is asked for what it refuses; then both must look alike. */
    private static void leaves(Made made, String call, Class<? extends RuntimeException> due, Refused refused) {
        Bothfaces asked = made.loom();
        check.fails(call, due, () -> refused.by(asked));
        String got = Sight.of(asked);
        String wanted = Sight.of(made.loom());
        if (!got.equals(wanted)) {
            check.tell(call + " was refused and changed " + wanted + " to " + got);
        }
    }

    private static void refusedCallsChangeNothing(Check c) {
        check = c;
        cardsChangeNothing();
        picksChangeNothing();
        lettersChangeNothing();
        plansChangeNothing();
        askedChangesNothing();
        handsAndOrdersChangeNothing();
    }

    private static Bothfaces empty() {
        return new Bothfaces();
    }

    /** Six cards, three picks, both mottoes, packs, slips and all that a loom can have. */
    private static Bothfaces rich() {
        Bothfaces x = new Bothfaces();
        for (int i = 0; i < 6; i++) {
            x.card(i, 1, 0, i == 3 ? 2 : 1, i % 2 == 0 ? 's' : 'z');
            x.setPack(i, i & 3);
        }
        x.turn(1, true);
        x.pick();
        x.turn(2, false);
        x.slip(3, 2);
        x.pick();
        x.turn(1, true);
        x.pick();
        x.slip(0, 1);
        Looms.draw(x, 'a', 1, 2, 3, 4, 5);
        Looms.draw(x, 'b', 6, 7, 0, 1, 2);
        Looms.typing(x, "ab");
        x.motto(false, 0, 1);
        x.type('a');
        x.motto(true, 1, 2);
        x.setInk(true, 3);
        x.setGround(false, 1);
        x.weaver(10);
        x.weaver(70);
        x.order(30, 100, 2);
        x.order(5, 200, 1);
        return x;
    }

    private static Bothfaces full() {
        Bothfaces x = Looms.typing(Looms.withCards(16), "abcabcab");
        Looms.draw(x, 'a', 1);
        Looms.draw(x, 'b', 6);
        for (int i = 0; i < 6; i++) {
            x.weaver(15 * i);
        }
        for (int i = 0; i < 8; i++) {
            x.order(10 + i, 100, 3);
        }
        return x;
    }

    private static Bothfaces fortyPicks() {
        return Looms.turning(full(), 40);
    }

    private static void cardsChangeNothing() {
        leaves(WholeEdges::empty, "card", ARGUMENT, x -> x.card(0, 0, 0, 8, 's'));
        leaves(WholeEdges::empty, "card", ARGUMENT, x -> x.card(0, 0, 0, 0, 'x'));
        leaves(WholeEdges::rich, "card", UNSUPPORTED, x -> x.card(7, 7, 7, 7, 's'));
        leaves(WholeEdges::full, "card", STATE, x -> x.card(7, 7, 7, 7, 's'));
        leaves(WholeEdges::rich, "setPack", INDEX, x -> x.setPack(6, 1));
        leaves(WholeEdges::rich, "setPack", ARGUMENT, x -> x.setPack(5, 4));
        leaves(WholeEdges::rich, "turn", ARGUMENT, x -> x.turn(4, true));
        leaves(WholeEdges::rich, "turn", ARGUMENT, x -> x.turn(-1, false));
        leaves(WholeEdges::rich, "at", INDEX, x -> x.at(6));
        leaves(WholeEdges::rich, "twist", INDEX, x -> x.twist(6));
        leaves(WholeEdges::rich, "slip", INDEX, x -> x.slip(6, 1));
        leaves(WholeEdges::rich, "slip", ARGUMENT, x -> x.slip(5, 3));
        leaves(WholeEdges::rich, "slip", ARGUMENT, x -> x.slip(0, 0));
    }

    private static void picksChangeNothing() {
        leaves(WholeEdges::empty, "pick", UNSUPPORTED, x -> x.pick());
        leaves(WholeEdges::fortyPicks, "pick", STATE, x -> x.pick());
        leaves(WholeEdges::full, "unweave", UNSUPPORTED, x -> x.unweave());
        leaves(WholeEdges::rich, "colour", INDEX, x -> x.colour(6, 0, false));
        leaves(WholeEdges::rich, "colour", INDEX, x -> x.colour(5, 3, true));
        leaves(WholeEdges::rich, "isIdle", INDEX, x -> x.isIdle(6, 0));
        leaves(WholeEdges::rich, "isIdle", INDEX, x -> x.isIdle(5, 3));
        leaves(WholeEdges::rich, "longestFloat", INDEX, x -> x.longestFloat(6));
    }

    private static void lettersChangeNothing() {
        leaves(WholeEdges::rich, "draw", ARGUMENT, x -> x.draw('A', 0, 7));
        leaves(WholeEdges::rich, "draw", ARGUMENT, x -> x.draw('a', 5, 7));
        leaves(WholeEdges::rich, "draw", ARGUMENT, x -> x.draw('a', 0, 8));
        leaves(WholeEdges::rich, "draw", ARGUMENT, x -> x.draw('a', 4, -1));
        leaves(WholeEdges::rich, "type", ARGUMENT, x -> x.type('{'));
        leaves(WholeEdges::full, "type", STATE, x -> x.type('a'));
        leaves(WholeEdges::rich, "motto", INDEX, x -> x.motto(false, 6, 0));
        leaves(WholeEdges::rich, "motto", ARGUMENT, x -> x.motto(false, 0, 40));
        leaves(WholeEdges::rich, "motto", ARGUMENT, x -> x.motto(true, 0, -1));
        leaves(WholeEdges::rich, "motto", UNSUPPORTED, x -> x.motto(true, 2, 0));
        leaves(WholeEdges::rich, "motto", UNSUPPORTED, x -> x.motto(false, 0, 30));
        leaves(WholeEdges::wiped, "motto", UNSUPPORTED, x -> x.motto(false, 0, 0));
        leaves(WholeEdges::wiped, "motto", UNSUPPORTED, x -> x.motto(true, 1, 39));
        leaves(WholeEdges::rich, "setInk", ARGUMENT, x -> x.setInk(true, 8));
        leaves(WholeEdges::rich, "setInk", ARGUMENT, x -> x.setInk(false, -1));
        leaves(WholeEdges::rich, "setGround", ARGUMENT, x -> x.setGround(true, 8));
        leaves(WholeEdges::rich, "setGround", ARGUMENT, x -> x.setGround(false, -1));
        leaves(WholeEdges::rich, "wanted", INDEX, x -> x.wanted(6, 0, true));
        leaves(WholeEdges::rich, "wanted", ARGUMENT, x -> x.wanted(5, 40, false));
        leaves(WholeEdges::rich, "pairs", INDEX, x -> x.pairs(6));
    }

    private static Bothfaces wiped() {
        Bothfaces x = rich();
        x.wipe();
        return x;
    }

    private static void plansChangeNothing() {
        leaves(WholeEdges::rich, "canPlan", INDEX, x -> x.canPlan(6, 3));
        leaves(WholeEdges::rich, "canPlan", ARGUMENT, x -> x.canPlan(5, 2));
        leaves(WholeEdges::rich, "reversals", INDEX, x -> x.reversals(6, 3));
        leaves(WholeEdges::rich, "reversals", ARGUMENT, x -> x.reversals(5, 40));
        leaves(WholeEdges::rich, "reversals", NONE, x -> x.reversals(0, 39));
        leaves(WholeEdges::rich, "planAt", INDEX, x -> x.planAt(6, 3, 0));
        leaves(WholeEdges::rich, "planAt", ARGUMENT, x -> x.planAt(5, 2, 0));
        leaves(WholeEdges::rich, "planAt", NONE, x -> x.planAt(0, 39, 0));
        leaves(WholeEdges::rich, "weave", ARGUMENT, x -> x.weave(2));
        leaves(WholeEdges::rich, "weave", ARGUMENT, x -> x.weave(40));
        leaves(WholeEdges::fortyPicks, "weave", ARGUMENT, x -> x.weave(40));
        leaves(WholeEdges::fortyPicks, "weave", ARGUMENT, x -> x.weave(39));
        leaves(WholeEdges::empty, "weave", UNSUPPORTED, x -> x.weave(0));
    }

    private static void askedChangesNothing() {
        leaves(WholeEdges::rich, "faultsOf", INDEX, x -> x.faultsOf(6));
        leaves(WholeEdges::full, "firstFault", NONE, x -> x.firstFault());
        leaves(WholeEdges::full, "suspect", NONE, x -> x.suspect());
        leaves(WholeEdges::rich, "ways", INDEX, x -> x.ways(6, 0, 2, true));
        leaves(WholeEdges::rich, "ways", INDEX, x -> x.ways(5, 3, 2, true));
        leaves(WholeEdges::rich, "ways", INDEX, x -> x.ways(5, 0, 3, true));
        leaves(WholeEdges::rich, "ways", ARGUMENT, x -> x.ways(5, 1, 1, false));
        leaves(WholeEdges::rich, "yarn", ARGUMENT, x -> x.yarn(8));
        leaves(WholeEdges::full, "rightShare", ARITHMETIC, x -> x.rightShare());
        leaves(WholeEdges::empty, "meanTwist", ARITHMETIC, x -> x.meanTwist());
    }

    private static void handsAndOrdersChangeNothing() {
        leaves(WholeEdges::rich, "weaver", ARGUMENT, x -> x.weaver(100));
        leaves(WholeEdges::full, "weaver", STATE, x -> x.weaver(50));
        leaves(WholeEdges::full, "hand", NONE, x -> x.hand());
        leaves(WholeEdges::empty, "hand", NONE, x -> x.hand());
        leaves(WholeEdges::rich, "order", ARGUMENT, x -> x.order(201, 1, 1));
        leaves(WholeEdges::rich, "order", ARGUMENT, x -> x.order(1, 1000, 1));
        leaves(WholeEdges::rich, "order", ARGUMENT, x -> x.order(1, 1, 100));
        leaves(WholeEdges::full, "order", STATE, x -> x.order(1, 1, 1));
        leaves(WholeEdges::rich, "readyOn", INDEX, x -> x.readyOn(2));
    }

    private static void firstListedIsThrown(Check c) {
        Bothfaces forty = fortyPicks();
        c.fails("card, number, pick and 16", ARGUMENT, () -> forty.card(8, 0, 0, 0, 's'));
        c.fails("card, like, pick and 16", ARGUMENT, () -> forty.card(0, 0, 0, 0, 'S'));
        c.fails("card, pick and 16", UNSUPPORTED, () -> forty.card(0, 0, 0, 0, 's'));
        c.fails("card, number and 16", ARGUMENT, () -> full().card(0, 0, -1, 0, 's'));
        c.fails("card, number and pick", ARGUMENT, () -> rich().card(0, 8, 0, 0, 's'));
        Bothfaces x = rich();
        c.fails("setPack, card and pack", INDEX, () -> x.setPack(6, 4));
        c.fails("slip, card and quarters", INDEX, () -> x.slip(-1, 0));
        c.fails("type, letter and 8", ARGUMENT, () -> full().type('A'));
        c.fails("wanted, card and pick", INDEX, () -> x.wanted(6, 40, true));
        c.fails("ways, card and not later", INDEX, () -> x.ways(6, 2, 1, true));
        c.fails("ways, first pick and not later", INDEX, () -> x.ways(5, 3, 2, true));
        c.fails("ways, second pick and not later", INDEX, () -> x.ways(5, 0, -1, true));
        c.fails("weave, last and no cards", ARGUMENT, () -> empty().weave(40));
        c.fails("weave, last below 0 and no cards", ARGUMENT, () -> empty().weave(-1));
        c.fails("weaver, rate and 6", ARGUMENT, () -> full().weaver(-1));
        c.fails("order, picks and 8", ARGUMENT, () -> full().order(0, 1, 1));
        c.fails("order, due and 8", ARGUMENT, () -> full().order(1, 1, 100));
        ofMottoes(c);
        ofPlans(c);
    }

    private static void ofMottoes(Check c) {
        Bothfaces x = rich();
        c.fails("motto, card and pick", INDEX, () -> x.motto(false, 6, 40));
        c.fails("motto, card and does not fit", INDEX, () -> x.motto(false, 6, 39));
        c.fails("motto, pick and fewer than 5 cards", ARGUMENT, () -> x.motto(true, 2, 40));
        c.fails("motto, pick and beyond 39", ARGUMENT, () -> x.motto(true, 0, 41));
        Bothfaces nothing = wiped();
        c.fails("motto, card and nothing typed", INDEX, () -> nothing.motto(false, -1, 0));
        c.fails("motto, pick and nothing typed", ARGUMENT, () -> nothing.motto(false, 0, -1));
        c.fails("motto, all", INDEX, () -> nothing.motto(true, 6, -1));
        c.fails("motto, no cards and nothing typed", INDEX, () -> empty().motto(true, 0, 0));
    }

    private static void ofPlans(Check c) {
        Bothfaces x = rich();
        c.fails("canPlan, card and last", INDEX, () -> x.canPlan(6, 40));
        c.fails("reversals, card and last", INDEX, () -> x.reversals(6, 2));
        c.fails("reversals, card and no plan", INDEX, () -> x.reversals(-1, 39));
        c.fails("reversals, last and no plan", ARGUMENT, () -> x.reversals(0, 40));
        c.fails("planAt, card, last and turn", INDEX, () -> x.planAt(6, 40, -1));
        c.fails("planAt, card and turn", INDEX, () -> x.planAt(6, 39, 99));
        c.fails("planAt, last and turn", ARGUMENT, () -> x.planAt(0, 2, -1));
        c.fails("planAt, last and turn, 40", ARGUMENT, () -> x.planAt(0, 40, 99));
        c.fails("planAt, plan and turn", NONE, () -> x.planAt(0, 39, 99));
    }
}
