import java.util.ArrayList;
import java.util.HashMap;
import java.util.HashSet;
import java.util.List;
import java.util.Map;
import java.util.NoSuchElementException;
import java.util.Set;
import java.util.TreeMap;

/** The document's calls once more, in the plainest and dearest form, for ModelTest to compare with. */
final class Model {
    private final List<int[]> colours = new ArrayList<>();
    private final List<Character> likes = new ArrayList<>();
    private final List<Integer> packs = new ArrayList<>();
    private int[] stands = new int[0];
    private int[] twists = new int[0];
    private final List<int[]> standsIn = new ArrayList<>();
    private final List<int[]> twistsIn = new ArrayList<>();
    private final Map<Character, int[]> drawings = new HashMap<>();
    private String typed = "";
    private final String[] mottoes = {"", ""};
    private final int[][] laid = new int[2][2];
    private final int[] inks = {1, 1};
    private final int[] grounds = {0, 0};
    private final List<Integer> rates = new ArrayList<>();
    private final List<int[]> orders = new ArrayList<>();

    private static RuntimeException index() {
        return new IndexOutOfBoundsException();
    }

    private static RuntimeException argument() {
        return new IllegalArgumentException();
    }

    private static boolean isIn(int number, int least, int most) {
        return number >= least && number <= most;
    }

    private void card(int card) {
        if (!isIn(card, 0, colours.size() - 1)) {
            throw index();
        }
    }

    private void isPick(int pick) {
        if (!isIn(pick, 0, standsIn.size() - 1)) {
            throw index();
        }
    }

    private static void range(int number, int least, int most) {
        if (!isIn(number, least, most)) {
            throw argument();
        }
    }

    private static int face(boolean isBack) {
        return isBack ? 1 : 0;
    }

    private static int[] longer(int[] row) {
        int[] more = new int[row.length + 1];
        System.arraycopy(row, 0, more, 0, row.length);
        return more;
    }

    int card(int one, int two, int three, int four, char like) {
        for (int c : new int[] {one, two, three, four}) {
            range(c, 0, 7);
        }
        if ("sz".indexOf(like) < 0) {
            throw argument();
        }
        if (!standsIn.isEmpty()) {
            throw new UnsupportedOperationException();
        }
        if (colours.size() == 16) {
            throw new IllegalStateException();
        }
        colours.add(new int[] {one, two, three, four});
        likes.add(like);
        packs.add(0);
        stands = longer(stands);
        twists = longer(twists);
        return colours.size() - 1;
    }

    int setPack(int card, int pack) {
        card(card);
        range(pack, 0, 3);
        return packs.set(card, pack);
    }

    private void go(int card, boolean isForward) {
        stands[card] = (stands[card] + (isForward ? 1 : 3)) % 4;
        boolean isMore = likes.get(card) == 's' ? isForward : !isForward;
        twists[card] = isMore ? twists[card] + 1 : twists[card] - 1;
    }

    int turn(int pack, boolean isForward) {
        range(pack, 0, 3);
        int many = 0;
        for (int i = 0; i < packs.size(); i++) {
            if (packs.get(i) == pack) {
                go(i, isForward);
                many++;
            }
        }
        return many;
    }

    int at(int card) {
        card(card);
        return stands[card];
    }

    int twist(int card) {
        card(card);
        return twists[card];
    }

    int mostTwist() {
        int most = 0;
        for (int t : twists) {
            most = t > most ? t : -t > most ? -t : most;
        }
        return most;
    }

    int slip(int card, int quarters) {
        card(card);
        if (quarters == 0) {
            throw argument();
        }
        range(quarters, -1, 2);
        stands[card] = (stands[card] + quarters + 4) % 4;
        return stands[card];
    }

    private int put() {
        standsIn.add(stands.clone());
        twistsIn.add(twists.clone());
        return standsIn.size();
    }

    int pick() {
        if (colours.isEmpty()) {
            throw new UnsupportedOperationException();
        }
        if (standsIn.size() == 40) {
            throw new IllegalStateException();
        }
        return put();
    }

    int unweave() {
        if (standsIn.isEmpty()) {
            throw new UnsupportedOperationException();
        }
        int left = standsIn.size() - 1;
        standsIn.remove(left);
        twistsIn.remove(left);
        if (left > 0) {
            stands = standsIn.get(left - 1).clone();
            twists = twistsIn.get(left - 1).clone();
        }
        return left;
    }

    int picks() {
        return standsIn.size();
    }

    private int shown(int card, int stand, boolean isBack) {
        return colours.get(card)[isBack ? (stand + 2) % 4 : stand];
    }

    int colour(int card, int pick, boolean isBack) {
        card(card);
        isPick(pick);
        return shown(card, standsIn.get(pick)[card], isBack);
    }

    boolean isIdle(int card, int pick) {
        card(card);
        isPick(pick);
        return pick != 0 && standsIn.get(pick)[card] == standsIn.get(pick - 1)[card];
    }

    int longestFloat(int card) {
        card(card);
        int longest = 0;
        for (int from = 0; from < picks(); from++) {
            for (int to = from; to < picks() && standsIn.get(to)[card] == standsIn.get(from)[card]; to++) {
                longest = Math.max(longest, to - from + 1);
            }
        }
        return longest;
    }

    int draw(char letter, int row, int bits) {
        range(letter, 'a', 'z');
        range(row, 0, 4);
        range(bits, 0, 7);
        int[] rows = drawings.computeIfAbsent(letter, c -> new int[5]);
        int before = rows[row];
        rows[row] = bits;
        return before;
    }

    int type(char letter) {
        range(letter, 'a', 'z');
        if (typed.length() == 8) {
            throw new IllegalStateException();
        }
        typed += letter;
        return typed.length();
    }

    int wipe() {
        int before = typed.length();
        typed = "";
        return before;
    }

    int motto(boolean isBack, int card, int pick) {
        card(card);
        range(pick, 0, 39);
        int takes = 3 * typed.length() + typed.length() - 1;
        if (typed.isEmpty() || card + 4 >= colours.size() || pick + takes - 1 > 39) {
            throw new UnsupportedOperationException();
        }
        mottoes[face(isBack)] = typed;
        laid[face(isBack)] = new int[] {card, pick};
        return takes;
    }

    int setInk(boolean isBack, int colour) {
        range(colour, 0, 7);
        int before = inks[face(isBack)];
        inks[face(isBack)] = colour;
        return before;
    }

    int setGround(boolean isBack, int colour) {
        range(colour, 0, 7);
        int before = grounds[face(isBack)];
        grounds[face(isBack)] = colour;
        return before;
    }

    /** The squares along a row of a face's motto, each '1' or '0', as they lie on the band. */
    private String rowOf(boolean isBack, int row) {
        StringBuilder along = new StringBuilder();
        for (char c : mottoes[face(isBack)].toCharArray()) {
            int bits = drawings.containsKey(c) ? drawings.get(c)[row] : 0;
            along.append(along.length() == 0 ? "" : "0").append(Integer.toBinaryString(8 + bits).substring(1));
        }
        return (isBack ? along.reverse() : along).toString();
    }

    private int want(int card, int pick, boolean isBack) {
        int row = card - laid[face(isBack)][0];
        int place = pick - laid[face(isBack)][1];
        String along = isIn(row, 0, 4) ? rowOf(isBack, row) : "";
        boolean isInk = isIn(place, 0, along.length() - 1) && along.charAt(place) == '1';
        return isInk ? inks[face(isBack)] : grounds[face(isBack)];
    }

    int wanted(int card, int pick, boolean isBack) {
        card(card);
        range(pick, 0, 39);
        return want(card, pick, isBack);
    }

    int pairs(int card) {
        card(card);
        Set<Integer> seen = new HashSet<>();
        for (int stand = 0; stand < 4; stand++) {
            seen.add(10 * shown(card, stand, false) + shown(card, stand, true));
        }
        return seen.size();
    }

    /** The best plan, found from its end: each ending is remembered by pick, stand and the turn ahead of it. */
    private String plan(int card, int last) {
        return ending(card, picks(), last, stands[card], ' ', new HashMap<>());
    }

    private String ending(int card, int pick, int last, int stand, char ahead, Map<String, String> known) {
        if (pick > last) {
            return "";
        }
        String key = pick + " " + stand + ahead;
        if (known.containsKey(key)) {
            return known.get(key);
        }
        String best = null;
        for (char way : new char[] {'f', 'b'}) {
            int then = (stand + (way == 'f' ? 1 : 3)) % 4;
            boolean isWanted = shown(card, then, false) == want(card, pick, false)
                    && shown(card, then, true) == want(card, pick, true);
            String rest = isWanted ? ending(card, pick + 1, last, then, way, known) : null;
            if (rest != null && (best == null || turnings(ahead + (way + rest)) < turnings(ahead + best))) {
                best = way + rest;
            }
        }
        known.put(key, best);
        return best;
    }

    private static int turnings(String turns) {
        int many = 0;
        for (int i = 1; i < turns.length(); i++) {
            if (turns.charAt(i - 1) != ' ' && turns.charAt(i) != turns.charAt(i - 1)) {
                many++;
            }
        }
        return many;
    }

    private String askedPlan(int card, int last) {
        card(card);
        range(last, picks(), 39);
        return plan(card, last);
    }

    boolean canPlan(int card, int last) {
        return askedPlan(card, last) != null;
    }

    int reversals(int card, int last) {
        String plan = askedPlan(card, last);
        if (plan == null) {
            throw new NoSuchElementException();
        }
        return turnings(plan);
    }

    char planAt(int card, int last, int index) {
        String plan = askedPlan(card, last);
        if (plan == null || !isIn(index, 0, plan.length() - 1)) {
            throw new NoSuchElementException();
        }
        return plan.charAt(index);
    }

    int weave(int last) {
        range(last, picks(), 39);
        if (colours.isEmpty()) {
            throw new UnsupportedOperationException();
        }
        int planned = 0;
        for (int i = 0; i < colours.size(); i++) {
            String plan = plan(i, last);
            planned += plan == null ? 0 : 1;
            go(i, plan == null || plan.charAt(0) == 'f');
        }
        put();
        return planned;
    }

    private int wrong(int card, int pick, boolean isBack) {
        return shown(card, standsIn.get(pick)[card], isBack) == want(card, pick, isBack) ? 0 : 1;
    }

    private int wrongOf(int card, boolean isBack) {
        int sum = 0;
        for (int pick = 0; pick < picks(); pick++) {
            sum += wrong(card, pick, isBack);
        }
        return sum;
    }

    int faults(boolean isBack) {
        int sum = 0;
        for (int i = 0; i < colours.size(); i++) {
            sum += wrongOf(i, isBack);
        }
        return sum;
    }

    int faultsOf(int card) {
        card(card);
        return wrongOf(card, false) + wrongOf(card, true);
    }

    int firstFault() {
        for (int pick = 0; pick < picks(); pick++) {
            for (int i = 0; i < colours.size(); i++) {
                if (wrong(i, pick, false) + wrong(i, pick, true) > 0) {
                    return pick;
                }
            }
        }
        throw new NoSuchElementException();
    }

    int suspect() {
        int best = -1;
        for (int i = 0; i < colours.size(); i++) {
            if (faultsOf(i) > (best < 0 ? 0 : faultsOf(best))) {
                best = i;
            }
        }
        if (best < 0) {
            throw new NoSuchElementException();
        }
        return best;
    }

    long ways(int card, int first, int second, boolean isSeen) {
        card(card);
        isPick(first);
        isPick(second);
        if (first >= second) {
            throw argument();
        }
        return waysOn(card, first, standsIn.get(first)[card], second, isSeen, new HashMap<>());
    }

    private long waysOn(int card, int pick, int stand, int second, boolean isSeen, Map<Integer, Long> known) {
        if (pick == second) {
            return standsIn.get(second)[card] == stand ? 1 : 0;
        }
        if (known.containsKey(4 * pick + stand)) {
            return known.get(4 * pick + stand);
        }
        long sum = 0;
        for (int then : new int[] {(stand + 1) % 4, (stand + 3) % 4}) {
            boolean isLike = shown(card, then, false) == shown(card, standsIn.get(pick + 1)[card], false);
            if (!isSeen || isLike || pick + 1 == second) {
                sum += waysOn(card, pick + 1, then, second, isSeen, known);
            }
        }
        known.put(4 * pick + stand, sum);
        return sum;
    }

    int yarn(int colour) {
        range(colour, 0, 7);
        int sum = 0;
        for (int i = 0; i < colours.size(); i++) {
            for (int hole = 0; hole < 4; hole++) {
                sum += colours.get(i)[hole] == colour ? threadOf(i, hole) : 0;
            }
        }
        return sum;
    }

    private int threadOf(int card, int hole) {
        int length = 0;
        boolean wasSeen = true;
        for (int[] row : standsIn) {
            boolean isSeen = (row[card] + hole) % 2 == 0;
            length += isSeen && !wasSeen ? 15 : 12;
            wasSeen = isSeen;
        }
        return length;
    }

    int kinds() {
        Set<String> found = new HashSet<>();
        for (int i = 0; i < colours.size(); i++) {
            String least = "9";
            for (int from = 0; from < 4; from++) {
                StringBuilder row = new StringBuilder();
                for (int hole = 0; hole < 4; hole++) {
                    row.append(colours.get(i)[(from + hole) % 4]);
                }
                least = row.toString().compareTo(least) < 0 ? row.toString() : least;
            }
            found.add(likes.get(i) + least);
        }
        return found.size();
    }

    int weaver(int rate) {
        range(rate, 0, 99);
        if (rates.size() == 6) {
            throw new IllegalStateException();
        }
        rates.add(rate);
        return rates.size() - 1;
    }

    int hand() {
        if (rates.isEmpty() || picks() == 0) {
            throw new NoSuchElementException();
        }
        TreeMap<Integer, Integer> byGap = new TreeMap<>();
        for (int i = 0; i < rates.size(); i++) {
            byGap.putIfAbsent(Math.abs((faults(false) + faults(true)) * 100 - rates.get(i) * picks()), i);
        }
        return byGap.firstEntry().getValue();
    }

    int order(int picks, int price, int due) {
        range(picks, 1, 200);
        range(price, 1, 999);
        range(due, 1, 99);
        if (orders.size() == 8) {
            throw new IllegalStateException();
        }
        orders.add(new int[] {picks, price, due});
        return orders.size() - 1;
    }

    private List<int[]> asTold() {
        List<int[]> row = new ArrayList<>(orders);
        row.sort((a, b) -> a[2] - b[2]);
        return row;
    }

    int readyOn(int order) {
        if (!isIn(order, 0, orders.size() - 1)) {
            throw index();
        }
        int day = 0;
        for (int[] o : asTold()) {
            day += (o[0] + 9) / 10;
            if (o == orders.get(order)) {
                break;
            }
        }
        return day;
    }

    private static int worth(int[] order, int day) {
        int price = order[1];
        for (int late = order[2]; late < day; late++) {
            price = Math.max(0, price - order[1] / 10);
        }
        return price;
    }

    int brings() {
        int day = 0;
        int sum = 0;
        for (int[] o : asTold()) {
            day += (o[0] + 9) / 10;
            sum += worth(o, day);
        }
        return sum;
    }

    int bringsMost() {
        return mostOf(new ArrayList<>(orders), 0);
    }

    private static int mostOf(List<int[]> left, int day) {
        int most = 0;
        for (int i = 0; i < left.size(); i++) {
            int[] o = left.remove(i);
            int ready = day + (o[0] + 9) / 10;
            most = Math.max(most, worth(o, ready) + mostOf(left, ready));
            left.add(i, o);
        }
        return most;
    }

    long checksum() {
        long sum = 7;
        for (int i = 0; i < colours.size(); i++) {
            sum = sum * 31 + stands[i];
            sum = sum * 31 + twists[i];
        }
        for (int[] row : standsIn) {
            for (int i = 0; i < colours.size(); i++) {
                sum = sum * 31 + shown(i, row[i], false);
                sum = sum * 31 + shown(i, row[i], true);
            }
        }
        return sum * 31 + orders.size();
    }

    float rightShare() {
        float right = 0;
        float all = 0;
        for (int pick = 0; pick < picks(); pick++) {
            for (int i = 0; i < colours.size(); i++) {
                right += wrong(i, pick, false) + wrong(i, pick, true) == 0 ? 1 : 0;
                all++;
            }
        }
        if (all == 0) {
            throw new ArithmeticException();
        }
        return right / all;
    }

    double meanTwist() {
        if (colours.isEmpty()) {
            throw new ArithmeticException();
        }
        double sum = 0;
        for (int t : twists) {
            sum += t;
        }
        return sum / colours.size();
    }

    boolean isSound() {
        return true;
    }
}
