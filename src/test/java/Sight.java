/** All that can be seen of a loom, as a text. To look costs up to some 450 calls and changes it at last. */
final class Sight {
    private static final int SOME_PICKS = 6;
    private static final int MOST_SQUARES = 12;

    /** A call whose answer is seen, or the exception. */
    private interface Asked {
        Object of();
    }

    private final Bothfaces x;
    private final StringBuilder text = new StringBuilder();
    private int cards;

    private Sight(Bothfaces x) {
        this.x = x;
    }

    static String of(Bothfaces x) {
        Sight sight = new Sight(x);
        sight.seeTheBand();
        sight.seeCards();
        sight.seeOrders();
        sight.seeWhatReadingChanges();
        return sight.text.toString();
    }

    private void see(String name, Asked asked) {
        text.append(' ').append(name).append('=');
        try {
            text.append(asked.of());
        } catch (RuntimeException e) {
            text.append(e.getClass().getSimpleName());
        }
    }

    private void seeTheBand() {
        see("sum", () -> x.checksum());
        see("picks", () -> x.picks());
        see("most", () -> x.mostTwist());
        see("front", () -> x.faults(false));
        see("back", () -> x.faults(true));
        see("first", () -> x.firstFault());
        see("suspect", () -> x.suspect());
        see("kinds", () -> x.kinds());
        see("hand", () -> x.hand());
        see("right", () -> x.rightShare());
        see("mean", () -> x.meanTwist());
        see("sound", () -> x.isSound());
        for (int colour = 0; colour < 8; colour++) {
            int of = colour;
            see("yarn", () -> x.yarn(of));
        }
    }

    private void seeCards() {
        cards = cardsOf();
        text.append(" cards=").append(cards);
        int last = Math.min(39, x.picks() + 1);
        for (int i = 0; i < cards; i++) {
            int card = i;
            see("pairs", () -> x.pairs(card));
            see("float", () -> x.longestFloat(card));
            see("faults", () -> x.faultsOf(card));
            see("turns", () -> x.reversals(card, last));
            seeSquares(card);
        }
    }

    private int cardsOf() {
        for (int card = 0; card < 16; card++) {
            try {
                x.at(card);
            } catch (IndexOutOfBoundsException e) {
                return card;
            }
        }
        return 16;
    }

    /** Of a few cards all, of many the first squares alone, so that the calls stay few. */
    private void seeSquares(int card) {
        int squares = cards > SOME_PICKS ? 2 : MOST_SQUARES;
        for (int pick = 0; pick < squares; pick++) {
            int of = pick;
            see("wanted", () -> x.wanted(card, of, false));
            see("wanted", () -> x.wanted(card, of, true));
        }
    }

    private void seeOrders() {
        see("brings", () -> x.brings());
        see("most", () -> x.bringsMost());
        for (int order = 0; order < 9; order++) {
            int of = order;
            see("ready", () -> x.readyOn(of));
        }
    }

    private void seeWhatReadingChanges() {
        for (int card = 0; card < cards; card++) {
            int of = card;
            see("pack", () -> x.setPack(of, 0));
        }
        see("ink", () -> x.setInk(false, 1));
        see("ink", () -> x.setInk(true, 1));
        see("ground", () -> x.setGround(false, 0));
        see("ground", () -> x.setGround(true, 0));
        seeWhatIsTyped();
        for (int row = 0; row < 5; row++) {
            int of = row;
            see("a", () -> x.draw('a', of, 0));
            see("b", () -> x.draw('b', of, 0));
        }
        see("weaver", () -> x.weaver(0));
        see("order", () -> x.order(1, 1, 1));
        see("card", () -> x.card(0, 0, 0, 0, 's'));
        see("unweave", () -> x.unweave());
        see("sum", () -> x.checksum());
    }

    /** The letters a, b and c are drawn unlike, and what is typed is laid to be seen. */
    private void seeWhatIsTyped() {
        see("laid", () -> x.motto(false, 0, 0));
        for (int pick = 0; pick < 40 && cards >= 5; pick++) {
            int of = pick;
            see("typed", () -> x.wanted(0, of, false));
        }
        see("typed", () -> x.type('c'));
        see("wiped", () -> x.wipe());
    }
}
