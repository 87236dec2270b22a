import java.util.NoSuchElementException;

/** Promises 27 to 30: faults, the first one and the suspect. */
public final class FaultsTest {
    private static final Check CHECK = new Check();

    public static void main(String[] args) {
        countsFaults();
        suspects();
        findsASlip();
        findsTheFirstCardsFault();
        CHECK.end();
    }

    private static void countsFaults() {
        Bothfaces x = new Bothfaces();
        CHECK.same("27: without cards", x.faults(false), 0);
        CHECK.fails("28: without cards", IndexOutOfBoundsException.class, () -> x.faultsOf(0));
        x.card(0, 1, 2, 3, 's');
        x.card(0, 0, 0, 0, 's');
        CHECK.same("27: without picks", x.faults(true), 0);
        CHECK.fails("29: without picks", NoSuchElementException.class, () -> x.firstFault());
        CHECK.fails("30: without picks", NoSuchElementException.class, () -> x.suspect());
        x.setGround(true, 2);
        x.setPack(1, 1);
        x.pick();
        CHECK.same("27: front", x.faults(false), 0);
        CHECK.same("27: back", x.faults(true), 1);
        CHECK.same("28: card 0", x.faultsOf(0), 0);
        CHECK.same("28: card 1", x.faultsOf(1), 1);
        CHECK.same("29: on the back", x.firstFault(), 0);
        x.setGround(true, 0);
        CHECK.same("27: the ground by now", x.faults(true), 1);
        CHECK.same("28: card 0 by now", x.faultsOf(0), 1);
        x.setGround(true, 2);
        x.turn(0, true);
        x.pick();
        CHECK.same("27: front of two", x.faults(false), 1);
        CHECK.same("27: back of two", x.faults(true), 3);
        CHECK.same("28: each face by itself", x.faultsOf(0), 2);
        x.unweave();
        CHECK.same("27: a pick less", x.faults(true), 1);
        CHECK.fails("28: card 2", IndexOutOfBoundsException.class, () -> x.faultsOf(2));
        CHECK.fails("28: card -1", IndexOutOfBoundsException.class, () -> x.faultsOf(-1));
    }

    private static void suspects() {
        Bothfaces x = new Bothfaces();
        for (int i = 0; i < 4; i++) {
            x.card(0, 1, 0, 0, 's');
            x.setPack(i, i);
        }
        x.pick();
        CHECK.fails("29: no fault", NoSuchElementException.class, () -> x.firstFault());
        CHECK.fails("30: no fault", NoSuchElementException.class, () -> x.suspect());
        x.pick();
        x.turn(2, true);
        x.turn(3, true);
        x.pick();
        CHECK.same("29: the pick 2", x.firstFault(), 2);
        CHECK.same("30: of like ones the lowest", x.suspect(), 2);
        x.turn(3, true);
        x.turn(3, true);
        x.pick();
        CHECK.same("30: by faults of the back", x.suspect(), 2);
        x.turn(2, true);
        x.pick();
        CHECK.same("30: most faults", x.suspect(), 3);
        x.setGround(false, 1);
        x.setGround(true, 1);
        CHECK.same("29: by what is wanted now", x.firstFault(), 0);
        CHECK.same("30: by what is wanted now", x.suspect(), 0);
    }

    private static void findsTheFirstCardsFault() {
        Bothfaces x = new Bothfaces();
        x.card(0, 0, 0, 3, 's');
        for (int i = 1; i < 16; i++) {
            x.card(0, 0, 0, 0, 's');
        }
        x.pick();
        x.turn(0, true);
        x.pick();
        CHECK.same("29: of the card 0 alone", x.firstFault(), 1);
        CHECK.same("30: the card 0", x.suspect(), 0);
        CHECK.same("27: of sixteen cards", x.faults(true), 1);
    }

    /** Cards that turn to and fro show what is wanted, until one of them slips by a half. */
    private static void findsASlip() {
        Bothfaces x = new Bothfaces();
        for (int i = 0; i < 5; i++) {
            x.card(0, 0, 1, 1, 's');
        }
        x.setGround(true, 1);
        for (int i = 0; i < 6; i++) {
            if (i == 3) {
                CHECK.fails("30: no slip yet", NoSuchElementException.class, () -> x.suspect());
                x.slip(3, 2);
            }
            x.turn(0, i % 2 == 0);
            x.pick();
        }
        CHECK.same("29: behind the slip", x.firstFault(), 3);
        CHECK.same("30: the card that slipped", x.suspect(), 3);
        CHECK.same("28: of the card that slipped", x.faultsOf(3), 6);
        CHECK.same("28: of the others", x.faultsOf(2) + x.faultsOf(4), 0);
    }
}
