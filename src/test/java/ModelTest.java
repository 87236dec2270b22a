/** All promises: long runs of calls, with arguments in and out of range, answer as the Model does. */
public final class ModelTest {
    /** A call on the class and the same one on the model; each answers a number of any type. */
    private interface Asked {
        Object of();
    }

    private static final Check CHECK = new Check();
    private static final int CALLS = 512;
    private static final int KINDS_OF_CALLS = 41;

    private static long seed = 20261119;
    private static String told = "";

    private Bothfaces x = new Bothfaces();
    private Model m = new Model();
    private int colours;
    private int cards;
    private int wild;

    public static void main(String[] args) {
        for (int run = 0; run < 700; run++) {
            new ModelTest().run(run);
        }
        CHECK.end();
    }

    private static int below(int bound) {
        seed = seed * 6364136223846793005L + 1442695040888963407L;
        return (int) ((seed >>> 33) % bound);
    }

    private static boolean oneIn(int bound) {
        return below(bound) == 0;
    }

    private void run(int run) {
        colours = 1 + below(3);
        cards = oneIn(4) ? below(5) : 5 + below(12);
        wild = run % 2 == 0 ? 40 : 6;
        int turned = below(KINDS_OF_CALLS);
        told = "run " + run + ": ";
        int calls = 0;
        for (; calls < cards && run % 10 != 0; calls++) {
            addCard();
        }
        for (; calls < CALLS; calls++) {
            ask(oneIn(8) ? turned : below(KINDS_OF_CALLS));
        }
    }

    /** Mostly a number from least to most, sometimes one at the edge or far out. */
    private int near(int least, int most) {
        if (oneIn(wild)) {
            int[] far = {least - 1, most + 1, -1, Integer.MIN_VALUE, Integer.MAX_VALUE, most + 5, 0, 40, 16};
            return far[below(far.length)];
        }
        return least + below(Math.max(1, most - least + 1));
    }

    private int colour() {
        return oneIn(wild) ? near(0, 7) : below(colours);
    }

    private int aCard() {
        return near(0, cards - 1);
    }

    private int aPick() {
        return near(0, m.picks() - 1);
    }

    private int last() {
        return near(m.picks(), 39);
    }

    private char letter() {
        return oneIn(wild) ? (char) near('a', 'z') : (char) ('a' + below(4));
    }

    private boolean flip() {
        return oneIn(2);
    }

    private void addCard() {
        int one = colour();
        int two = colour();
        int three = colour();
        int four = colour();
        char like = oneIn(wild) ? (char) near('s', 'z') : flip() ? 's' : 'z';
        compare("card(" + one + two + three + four + like + ")",
                () -> x.card(one, two, three, four, like), () -> m.card(one, two, three, four, like));
    }

    private void ask(int kind) {
        if (kind < 14) {
            askOfCardsAndPicks(kind);
        } else if (kind < 22) {
            askOfLetters(kind);
        } else if (kind < 30) {
            askOfPlansAndFaults(kind);
        } else {
            askOfTheRest(kind);
        }
    }

    private void askOfCardsAndPicks(int kind) {
        int card = aCard();
        int pick = aPick();
        int pack = near(0, 3);
        int quarters = oneIn(wild) ? near(-1, 2) : new int[] {-1, 1, 2}[below(3)];
        boolean flag = flip();
        switch (kind) {
            case 0: addCard(); break;
            case 1: compare("setPack " + card + " " + pack, () -> x.setPack(card, pack), () -> m.setPack(card, pack)); break;
            case 2: compare("turn " + pack + flag, () -> x.turn(pack, flag), () -> m.turn(pack, flag)); break;
            case 3: compare("turn 0" + flag, () -> x.turn(0, flag), () -> m.turn(0, flag)); break;
            case 4: compare("at " + card, () -> x.at(card), () -> m.at(card)); break;
            case 5: compare("twist " + card, () -> x.twist(card), () -> m.twist(card)); break;
            case 6: compare("mostTwist", () -> x.mostTwist(), () -> m.mostTwist()); break;
            case 7: compare("slip " + card + " " + quarters, () -> x.slip(card, quarters), () -> m.slip(card, quarters)); break;
            case 8: case 9: compare("pick", () -> x.pick(), () -> m.pick()); break;
            case 10: unweave(); break;
            case 11: compare("colour " + card + " " + pick + flag, () -> x.colour(card, pick, flag), () -> m.colour(card, pick, flag)); break;
            case 12: compare("isIdle " + card + " " + pick, () -> x.isIdle(card, pick), () -> m.isIdle(card, pick)); break;
            default: compare("longestFloat " + card, () -> x.longestFloat(card), () -> m.longestFloat(card)); break;
        }
    }

    /** Sometimes the whole band is taken out, so that cards can be added again. */
    private void unweave() {
        int many = oneIn(6) ? 1 + m.picks() : 1;
        for (int i = 0; i < many; i++) {
            compare("unweave", () -> x.unweave(), () -> m.unweave());
        }
        compare("picks", () -> x.picks(), () -> m.picks());
    }

    private void askOfLetters(int kind) {
        int card = oneIn(wild) ? aCard() : below(Math.max(1, cards - 4));
        int place = near(0, 39);
        int row = near(0, 4);
        int bits = near(0, 7);
        int colour = colour();
        char letter = letter();
        boolean flag = flip();
        switch (kind) {
            case 14: compare("draw " + letter + row + " " + bits, () -> x.draw(letter, row, bits), () -> m.draw(letter, row, bits)); break;
            case 15: compare("type " + letter, () -> x.type(letter), () -> m.type(letter)); break;
            case 16: if (oneIn(3)) { compare("wipe", () -> x.wipe(), () -> m.wipe()); } break;
            case 17: compare("motto " + flag + card + " " + place, () -> x.motto(flag, card, place), () -> m.motto(flag, card, place)); break;
            case 18: compare("setInk " + flag + colour, () -> x.setInk(flag, colour), () -> m.setInk(flag, colour)); break;
            case 19: compare("setGround " + flag + colour, () -> x.setGround(flag, colour), () -> m.setGround(flag, colour)); break;
            case 20: compare("wanted " + card + " " + place + flag, () -> x.wanted(card, place, flag), () -> m.wanted(card, place, flag)); break;
            default: compare("pairs " + card, () -> x.pairs(card), () -> m.pairs(card)); break;
        }
    }

    private void askOfPlansAndFaults(int kind) {
        int card = aCard();
        int last = last();
        int near = oneIn(3) ? last : m.picks() + below(3);
        int index = near(0, near - m.picks());
        boolean flag = flip();
        switch (kind) {
            case 22: compare("canPlan " + card + " " + near, () -> x.canPlan(card, near), () -> m.canPlan(card, near)); break;
            case 23: compare("reversals " + card + " " + near, () -> x.reversals(card, near), () -> m.reversals(card, near)); break;
            case 24: compare("planAt " + card + " " + near + " " + index, () -> x.planAt(card, near, index), () -> m.planAt(card, near, index)); break;
            case 25: compare("weave " + near, () -> x.weave(near), () -> m.weave(near)); break;
            case 26: compare("faults " + flag, () -> x.faults(flag), () -> m.faults(flag)); break;
            case 27: compare("faultsOf " + card, () -> x.faultsOf(card), () -> m.faultsOf(card)); break;
            case 28: compare("firstFault", () -> x.firstFault(), () -> m.firstFault()); break;
            default: compare("suspect", () -> x.suspect(), () -> m.suspect()); break;
        }
    }

    private void askOfTheRest(int kind) {
        int card = aCard();
        int first = aPick();
        int second = oneIn(wild) ? aPick() : near(first + 1, m.picks() - 1);
        int colour = colour();
        int order = near(0, 7);
        boolean flag = flip();
        switch (kind) {
            case 30: compare("ways " + card + " " + first + " " + second + flag, () -> x.ways(card, first, second, flag), () -> m.ways(card, first, second, flag)); break;
            case 31: compare("yarn " + colour, () -> x.yarn(colour), () -> m.yarn(colour)); break;
            case 32: compare("kinds", () -> x.kinds(), () -> m.kinds()); break;
            case 33: if (oneIn(8)) { addWeaverAndOrder(); } break;
            case 34: compare("hand", () -> x.hand(), () -> m.hand()); break;
            case 35: compare("readyOn " + order, () -> x.readyOn(order), () -> m.readyOn(order)); break;
            case 36: compare("brings", () -> x.brings(), () -> m.brings()); break;
            case 37: if (oneIn(30)) { compare("bringsMost", () -> x.bringsMost(), () -> m.bringsMost()); } break;
            case 38: compare("checksum", () -> x.checksum(), () -> m.checksum()); break;
            case 39: compare("rightShare", () -> x.rightShare(), () -> m.rightShare()); break;
            default:
                compare("meanTwist", () -> x.meanTwist(), () -> m.meanTwist());
                if (oneIn(8)) {
                    compare("isSound", () -> x.isSound(), () -> m.isSound());
                }
                break;
        }
    }

    private void addWeaverAndOrder() {
        int rate = near(0, 99);
        compare("weaver " + rate, () -> x.weaver(rate), () -> m.weaver(rate));
        int picks = oneIn(4) ? near(1, 200) : 1 + below(50);
        int price = near(1, 999);
        int due = oneIn(4) ? near(1, 99) : 1 + below(15);
        compare("order " + picks + " " + price + " " + due,
                () -> x.order(picks, price, due), () -> m.order(picks, price, due));
    }

    private static void compare(String call, Asked got, Asked due) {
        String gotText = answerOf(got, true);
        String dueText = answerOf(due, false);
        if (!gotText.equals(dueText)) {
            CHECK.tell(told + call + " answered " + gotText + ", due is " + dueText);
        }
    }

    private static String answerOf(Asked asked, boolean isOfTheClass) {
        try {
            return asked.of().toString();
        } catch (RuntimeException e) {
            boolean isWild = isOfTheClass && Check.isFromTheMachine(e);
            return e.getClass().getName() + (isWild ? " by the machine" : "");
        }
    }
}
