import java.util.NoSuchElementException;

/** Promises 34 to 39: weavers, the hand, orders, the told and the best order of work. */
public final class OrdersTest {
    private static final Check CHECK = new Check();

    public static void main(String[] args) {
        addsWeavers();
        tellsTheHand();
        addsOrders();
        worksAsTold();
        pricesFall();
        bringsMost();
        bringsMostOfAllRows();
        CHECK.end();
    }

    private static void addsWeavers() {
        Bothfaces x = new Bothfaces();
        int[] wrong = {-1, 100, Integer.MIN_VALUE, Integer.MAX_VALUE};
        for (int w : wrong) {
            CHECK.fails("34: rate " + w, IllegalArgumentException.class, () -> x.weaver(w));
        }
        for (int i = 0; i < 6; i++) {
            CHECK.same("34: number", x.weaver(i == 0 ? 0 : 99), i);
        }
        CHECK.fails("34: a seventh", IllegalStateException.class, () -> x.weaver(1));
        CHECK.fails("34: a wrong seventh", IllegalArgumentException.class, () -> x.weaver(100));
    }

    private static void tellsTheHand() {
        Bothfaces x = new Bothfaces();
        CHECK.fails("35: without both", NoSuchElementException.class, () -> x.hand());
        x.weaver(50);
        CHECK.fails("35: without picks", NoSuchElementException.class, () -> x.hand());
        x.weaver(20);
        x.weaver(20);
        x.weaver(70);
        x.card(0, 1, 0, 0, 's');
        x.pick();
        CHECK.same("35: no fault, of like ones the lowest", x.hand(), 1);
        x.turn(0, true);
        x.pick();
        CHECK.same("35: a fault in two picks", x.hand(), 0);
        x.turn(0, true);
        x.turn(0, true);
        x.pick();
        CHECK.same("35: two in three, the back too", x.hand(), 3);
        Bothfaces even = new Bothfaces();
        even.card(1, 0, 0, 0, 's');
        even.weaver(40);
        even.weaver(60);
        even.pick();
        even.turn(0, true);
        even.pick();
        CHECK.same("35: as far below as above", even.hand(), 0);
        Bothfaces noWeaver = new Bothfaces();
        noWeaver.card(0, 0, 0, 0, 's');
        noWeaver.pick();
        CHECK.fails("35: without weavers", NoSuchElementException.class, () -> noWeaver.hand());
    }

    private static void addsOrders() {
        Bothfaces x = new Bothfaces();
        int[] wrong = {0, -1, Integer.MIN_VALUE, Integer.MAX_VALUE};
        for (int w : wrong) {
            CHECK.fails("36: picks " + w, IllegalArgumentException.class, () -> x.order(w, 1, 1));
            CHECK.fails("36: price " + w, IllegalArgumentException.class, () -> x.order(1, w, 1));
            CHECK.fails("36: due " + w, IllegalArgumentException.class, () -> x.order(1, 1, w));
            CHECK.fails("37: order " + w, IndexOutOfBoundsException.class, () -> x.readyOn(w));
        }
        CHECK.fails("36: picks 201", IllegalArgumentException.class, () -> x.order(201, 1, 1));
        CHECK.fails("36: price 1000", IllegalArgumentException.class, () -> x.order(1, 1000, 1));
        CHECK.fails("36: due 100", IllegalArgumentException.class, () -> x.order(1, 1, 100));
        for (int i = 0; i < 8; i++) {
            CHECK.same("36: number", i % 2 == 0 ? x.order(200, 999, 99) : x.order(1, 1, 1), i);
        }
        CHECK.fails("36: a ninth", IllegalStateException.class, () -> x.order(1, 1, 1));
        CHECK.fails("36: a wrong ninth", IllegalArgumentException.class, () -> x.order(1, 1, 0));
        CHECK.fails("37: order 8", IndexOutOfBoundsException.class, () -> x.readyOn(8));
        CHECK.same("37: behind all others", x.readyOn(6), 84);
    }

    private static void worksAsTold() {
        Bothfaces x = new Bothfaces();
        x.order(10, 100, 5);
        CHECK.same("37: ten picks", x.readyOn(0), 1);
        x.order(11, 100, 3);
        CHECK.same("37: eleven picks", x.readyOn(1), 2);
        CHECK.same("37: behind it", x.readyOn(0), 3);
        x.order(9, 100, 5);
        CHECK.same("37: of like ones by numbers", x.readyOn(2), 4);
        CHECK.same("37: the lower number first", x.readyOn(0), 3);
        x.order(200, 100, 4);
        CHECK.same("37: twenty days", x.readyOn(3), 22);
        CHECK.same("37: the last one", x.readyOn(2), 24);
        CHECK.same("38: two are late", x.brings(), 100);
    }

    private static void pricesFall() {
        Bothfaces x = new Bothfaces();
        x.order(20, 99, 1);
        CHECK.same("38: a tenth, cut", x.brings(), 90);
        x.order(120, 99, 2);
        CHECK.same("38: twelve days late", x.brings(), 90);
        Bothfaces nine = new Bothfaces();
        nine.order(200, 9, 1);
        CHECK.same("38: a tenth of nine is none", nine.brings(), 9);
        Bothfaces edge = new Bothfaces();
        edge.order(110, 100, 1);
        CHECK.same("38: ten days late", edge.brings(), 0);
        Bothfaces left = new Bothfaces();
        left.order(110, 109, 1);
        CHECK.same("38: ten days late, cut each time", left.brings(), 9);
        Bothfaces due = new Bothfaces();
        due.order(30, 50, 3);
        CHECK.same("38: on the due day", due.brings(), 50);
    }

    private static void bringsMost() {
        Bothfaces x = new Bothfaces();
        x.order(200, 10, 1);
        CHECK.same("39: one", x.bringsMost(), 0);
        x.order(10, 500, 2);
        CHECK.same("38: as told", x.brings(), 0);
        CHECK.same("39: the other one first", x.bringsMost(), 500);
    }

    private static int seed = 5;

    private static int below(int bound) {
        seed = seed * 1103515245 + 12345;
        return ((seed >> 8) & 0xffff) % bound;
    }

    private static void bringsMostOfAllRows() {
        int better = 0;
        for (int round = 0; round < 60; round++) {
            Bothfaces x = new Bothfaces();
            int count = round < 4 ? 8 : 1 + below(7);
            int[][] orders = new int[count][];
            for (int i = 0; i < count; i++) {
                orders[i] = new int[] {1 + below(60), 1 + below(999), 1 + below(12)};
                x.order(orders[i][0], orders[i][1], orders[i][2]);
            }
            int most = mostOf(orders, new boolean[count], 0);
            CHECK.same("39: of all rows", x.bringsMost(), most);
            if (x.brings() < most) {
                better++;
            }
        }
        CHECK.yes("39: some were better than told", better > 5);
    }

    private static int mostOf(int[][] orders, boolean[] isDone, int day) {
        int most = 0;
        for (int i = 0; i < orders.length; i++) {
            if (!isDone[i]) {
                isDone[i] = true;
                int ready = day + (orders[i][0] + 9) / 10;
                int price = orders[i][1];
                for (int late = orders[i][2]; late < ready; late++) {
                    price -= orders[i][1] / 10;
                }
                most = Math.max(most, Math.max(price, 0) + mostOf(orders, isDone, ready));
                isDone[i] = false;
            }
        }
        return most;
    }
}
