/** Promises 40 to 43: the sum, the right share, the mean twist, and the check of the band. */
public final class SumsTest {
    private static final Check CHECK = new Check();

    public static void main(String[] args) {
        sums();
        sharesRight();
        meansTwist();
        isSound();
        CHECK.end();
    }

    private static void sums() {
        Bothfaces x = new Bothfaces();
        CHECK.same("40: empty", x.checksum(), 217);
        x.card(4, 5, 6, 7, 'z');
        CHECK.same("40: a card", x.checksum(), 31L * 31 * 31 * 7);
        x.turn(0, true);
        CHECK.same("40: a turn", x.checksum(), 31L * (31 * (31 * 7 + 1) - 1));
        x.order(1, 1, 1);
        CHECK.same("40: an order", x.checksum(), 31L * (31 * (31 * 7 + 1) - 1) + 1);
        x.pick();
        CHECK.same("40: a pick", x.checksum(), 31L * (31 * (31 * (31L * (31 * 7 + 1) - 1) + 5) + 7) + 1);
        x.slip(0, 1);
        CHECK.same("40: a slip", x.checksum(), 31L * (31 * (31 * (31L * (31 * 7 + 2) - 1) + 5) + 7) + 1);
        sumsAllInTheirOrder();
    }

    private static void sumsAllInTheirOrder() {
        Bothfaces x = new Bothfaces();
        x.card(1, 2, 3, 4, 's');
        x.card(5, 6, 7, 0, 'z');
        x.setPack(1, 1);
        x.pick();
        x.turn(0, true);
        x.pick();
        x.turn(1, false);
        long[] terms = {1, 1, 3, 1, 1, 3, 5, 7, 2, 4, 5, 7, 0};
        long sum = 7;
        for (long term : terms) {
            sum = 31 * sum + term;
        }
        CHECK.same("40: cards, then picks", x.checksum(), sum);
    }

    private static void sharesRight() {
        Bothfaces x = new Bothfaces();
        CHECK.fails("41: without cards", ArithmeticException.class, () -> x.rightShare());
        x.card(0, 1, 0, 0, 's');
        x.card(0, 0, 0, 0, 's');
        x.card(0, 1, 0, 1, 's');
        CHECK.fails("41: without picks", ArithmeticException.class, () -> x.rightShare());
        x.pick();
        CHECK.sameDouble("41: all", x.rightShare(), 1);
        x.turn(0, true);
        x.pick();
        CHECK.sameDouble("41: four of six", x.rightShare(), 4f / 6f);
        x.turn(0, true);
        x.turn(0, true);
        x.pick();
        CHECK.sameDouble("41: five of nine", x.rightShare(), 5f / 9f);
        x.setGround(false, 7);
        CHECK.sameDouble("41: none", x.rightShare(), 0);
    }

    private static void meansTwist() {
        Bothfaces x = new Bothfaces();
        CHECK.fails("42: without cards", ArithmeticException.class, () -> x.meanTwist());
        x.card(0, 0, 0, 0, 's');
        CHECK.sameDouble("42: none", x.meanTwist(), 0);
        x.card(0, 0, 0, 0, 's');
        x.card(0, 0, 0, 0, 'z');
        x.setPack(2, 1);
        x.turn(0, true);
        x.turn(0, true);
        CHECK.sameDouble("42: four by three", x.meanTwist(), 4.0 / 3.0);
        for (int i = 0; i < 5; i++) {
            x.turn(1, true);
        }
        CHECK.sameDouble("42: one below 0", x.meanTwist(), -1.0 / 3.0);
    }

    private static void isSound() {
        Bothfaces x = new Bothfaces();
        CHECK.yes("43: empty", x.isSound());
        for (int i = 0; i < 16; i++) {
            x.card(i & 1, (i >> 1) & 1, (i >> 2) & 1, (i >> 3) & 1, i % 3 == 0 ? 's' : 'z');
        }
        CHECK.yes("43: cards", x.isSound());
        x.type('k');
        for (int row = 0; row < 5; row++) {
            x.draw('k', row, row + 2);
        }
        x.motto(false, 3, 6);
        x.motto(true, 8, 7);
        for (int i = 0; i < 40; i++) {
            CHECK.yes("43: pick " + i, x.isSound());
            if (i % 3 == 0) {
                x.weave(39);
            } else {
                x.turn(0, i % 5 != 0);
                x.slip(i % 16, i % 2 == 0 ? 2 : -1);
                x.pick();
            }
        }
        CHECK.yes("43: 40 picks", x.isSound());
        CHECK.yes("43: a fault is sound", x.faults(true) > 0);
    }
}
