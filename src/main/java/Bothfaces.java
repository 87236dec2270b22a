import java.util.NoSuchElementException;

/**
 * A band woven on cards of four holes, so that both of its faces can be read.
 * What each call does, returns and throws stands in ../shared/DOC.md, as promises 1 to 43.
 */
public final class Bothfaces {
    private static final int MOST_CARDS = 16;
    private static final int MOST_PICKS = 40;
    private static final int MOST_TYPED = 8;
    private static final int MOST_WEAVERS = 6;
    private static final int MOST_ORDERS = 8;

    private static final int HOLES = 4;
    private static final int HALF_ROUND = 2;
    private static final int PACKS = 4;
    private static final int COLOURS = 8;
    private static final int LETTERS = 26;
    private static final int LETTER_ROWS = 5;
    private static final int LETTER_COLUMNS = 3;
    private static final int LETTER_STEP = LETTER_COLUMNS + 1;
    private static final int ROW_VALUES = 1 << LETTER_COLUMNS;

    private static final int YARN_A_PICK = 12;
    private static final int YARN_A_CHANGE = 3;
    private static final int MOST_RATE = 99;
    private static final int MOST_ORDER_PICKS = 200;
    private static final int MOST_PRICE = 999;
    private static final int MOST_DUE = 99;
    private static final int PICKS_A_DAY = 10;

    private static final int WAYS_TO_TURN = 2;
    private static final long NO_PLAN = Long.MAX_VALUE;

    private final Card[] cards = new Card[MOST_CARDS];
    private int cardCount;
    private int pickCount;

    private final int[][] drawn = new int[LETTERS][LETTER_ROWS];
    private final int[] typed = new int[MOST_TYPED];
    private int typedCount;
    private final Side front = new Side(false);
    private final Side back = new Side(true);

    private final Planner planner = new Planner();
    private final Mender mender = new Mender();
    private final int[] rates = new int[MOST_WEAVERS];
    private int weaverCount;
    private final Book book = new Book();

    public Bothfaces() {
        for (int i = 0; i < MOST_CARDS; i++) {
            cards[i] = new Card();
        }
    }

    // ---- cards ----

    public int card(int one, int two, int three, int four, char like)
            throws IllegalArgumentException, UnsupportedOperationException, IllegalStateException {
        needColour(one);
        needColour(two);
        needColour(three);
        needColour(four);
        if (like != 's' && like != 'z') {
            throw new IllegalArgumentException("no such like");
        }
        if (pickCount > 0) {
            throw new UnsupportedOperationException("there is a pick");
        }
        if (cardCount >= MOST_CARDS) {
            throw new IllegalStateException("there are 16 cards");
        }
        cards[cardCount].threadWith(one, two, three, four, like == 's');
        cardCount++;
        return cardCount - 1;
    }

    public int setPack(int card, int pack) throws IndexOutOfBoundsException, IllegalArgumentException {
        needCard(card);
        needPack(pack);
        int before = cards[card].pack;
        cards[card].pack = pack;
        return before;
    }

    public int turn(int pack, boolean isForward) throws IllegalArgumentException {
        needPack(pack);
        int turned = 0;
        for (int i = 0; i < cardCount; i++) {
            if (cards[i].pack == pack) {
                cards[i].rotate(isForward);
                turned++;
            }
        }
        return turned;
    }

    public int at(int card) throws IndexOutOfBoundsException {
        needCard(card);
        return cards[card].stand;
    }

    public int twist(int card) throws IndexOutOfBoundsException {
        needCard(card);
        return cards[card].twist;
    }

    public int mostTwist() {
        int most = 0;
        for (int i = 0; i < cardCount; i++) {
            most = Math.max(most, Math.abs(cards[i].twist));
        }
        return most;
    }

    public int slip(int card, int quarters) throws IndexOutOfBoundsException, IllegalArgumentException {
        needCard(card);
        if (quarters != -1 && quarters != 1 && quarters != 2) {
            throw new IllegalArgumentException("a card slips by -1, 1 or 2 quarters");
        }
        cards[card].stand = standAfter(cards[card].stand, quarters);
        return cards[card].stand;
    }

    // ---- picks ----

    public int pick() throws UnsupportedOperationException, IllegalStateException {
        if (cardCount == 0) {
            throw new UnsupportedOperationException("there are no cards");
        }
        if (pickCount >= MOST_PICKS) {
            throw new IllegalStateException("there are 40 picks");
        }
        putPickIn();
        return pickCount;
    }

    public int unweave() throws UnsupportedOperationException {
        if (pickCount == 0) {
            throw new UnsupportedOperationException("there is no pick");
        }
        pickCount--;
        if (pickCount > 0) {
            for (int i = 0; i < cardCount; i++) {
                cards[i].goBackTo(pickCount - 1);
            }
        }
        return pickCount;
    }

    public int picks() {
        return pickCount;
    }

    public int colour(int card, int pick, boolean isBack) throws IndexOutOfBoundsException {
        needCard(card);
        needPick(pick);
        return cards[card].shownIn(pick, isBack);
    }

    public boolean isIdle(int card, int pick) throws IndexOutOfBoundsException {
        needCard(card);
        needPick(pick);
        return cards[card].stoodStill(pick);
    }

    public int longestFloat(int card) throws IndexOutOfBoundsException {
        needCard(card);
        int longest = 0;
        int length = 0;
        for (int pick = 0; pick < pickCount; pick++) {
            length = cards[card].stoodStill(pick) ? length + 1 : 1;
            longest = Math.max(longest, length);
        }
        return longest;
    }

    // ---- letters and mottoes ----

    public int draw(char letter, int row, int bits) throws IllegalArgumentException {
        needLetter(letter);
        if (row < 0 || row >= LETTER_ROWS || bits < 0 || bits >= ROW_VALUES) {
            throw new IllegalArgumentException("no such row or bits");
        }
        int before = drawn[letter - 'a'][row];
        drawn[letter - 'a'][row] = bits;
        return before;
    }

    public int type(char letter) throws IllegalArgumentException, IllegalStateException {
        needLetter(letter);
        if (typedCount >= MOST_TYPED) {
            throw new IllegalStateException("there are 8 letters");
        }
        typed[typedCount] = letter - 'a';
        typedCount++;
        return typedCount;
    }

    public int wipe() {
        int before = typedCount;
        typedCount = 0;
        return before;
    }

    public int motto(boolean isBack, int card, int pick)
            throws IndexOutOfBoundsException, IllegalArgumentException, UnsupportedOperationException {
        needCard(card);
        needPlace(pick);
        if (typedCount == 0) {
            throw new UnsupportedOperationException("nothing is typed");
        }
        int span = spanOf(typedCount);
        if (cardCount - card < LETTER_ROWS || pick + span > MOST_PICKS) {
            throw new UnsupportedOperationException("the motto does not fit");
        }
        sideOf(isBack).lay(typed, typedCount, card, pick);
        return span;
    }

    public int setInk(boolean isBack, int colour) throws IllegalArgumentException {
        needColour(colour);
        Side side = sideOf(isBack);
        int before = side.ink;
        side.ink = colour;
        return before;
    }

    public int setGround(boolean isBack, int colour) throws IllegalArgumentException {
        needColour(colour);
        Side side = sideOf(isBack);
        int before = side.ground;
        side.ground = colour;
        return before;
    }

    public int wanted(int card, int pick, boolean isBack)
            throws IndexOutOfBoundsException, IllegalArgumentException {
        needCard(card);
        needPlace(pick);
        return orderedAt(card, pick, isBack);
    }

    public int pairs(int card) throws IndexOutOfBoundsException {
        needCard(card);
        int unlike = 0;
        for (int stand = 0; stand < HOLES; stand++) {
            if (isNewPair(cards[card], stand)) {
                unlike++;
            }
        }
        return unlike;
    }

    // ---- plans ----

    public boolean canPlan(int card, int last) throws IndexOutOfBoundsException, IllegalArgumentException {
        needCard(card);
        needLast(last);
        return bestPlan(card, last) != NO_PLAN;
    }

    public int reversals(int card, int last)
            throws IndexOutOfBoundsException, IllegalArgumentException, NoSuchElementException {
        needCard(card);
        needLast(last);
        long plan = bestPlan(card, last);
        needPlan(plan);
        return (int) (plan >> MOST_PICKS);
    }

    public char planAt(int card, int last, int index)
            throws IndexOutOfBoundsException, IllegalArgumentException, NoSuchElementException {
        needCard(card);
        needLast(last);
        long plan = bestPlan(card, last);
        needPlan(plan);
        if (index < 0 || index > last - pickCount) {
            throw new NoSuchElementException("no such turn in the plan");
        }
        return goesForward(plan, index) ? 'f' : 'b';
    }

    public int weave(int last) throws IllegalArgumentException, UnsupportedOperationException {
        needLast(last);
        if (cardCount == 0) {
            throw new UnsupportedOperationException("there are no cards");
        }
        int planned = 0;
        for (int i = 0; i < cardCount; i++) {
            long plan = bestPlan(i, last);
            if (plan != NO_PLAN) {
                planned++;
            }
            cards[i].rotate(plan == NO_PLAN || goesForward(plan, 0));
        }
        putPickIn();
        return planned;
    }

    // ---- faults ----

    public int faults(boolean isBack) {
        int found = 0;
        for (int i = 0; i < cardCount; i++) {
            found += faultsOn(i, isBack);
        }
        return found;
    }

    public int faultsOf(int card) throws IndexOutOfBoundsException {
        needCard(card);
        return faultsOn(card, false) + faultsOn(card, true);
    }

    public int firstFault() throws NoSuchElementException {
        for (int pick = 0; pick < pickCount; pick++) {
            for (int i = 0; i < cardCount; i++) {
                if (!isRight(i, pick)) {
                    return pick;
                }
            }
        }
        throw new NoSuchElementException("there is no fault");
    }

    public int suspect() throws NoSuchElementException {
        int suspected = 0;
        int most = 0;
        for (int i = 0; i < cardCount; i++) {
            int found = faultsOn(i, false) + faultsOn(i, true);
            if (found > most) {
                most = found;
                suspected = i;
            }
        }
        if (most == 0) {
            throw new NoSuchElementException("there is no fault");
        }
        return suspected;
    }

    // ---- mending, yarn and kinds ----

    public long ways(int card, int first, int second, boolean isSeen)
            throws IndexOutOfBoundsException, IllegalArgumentException {
        needCard(card);
        needPick(first);
        needPick(second);
        if (second <= first) {
            throw new IllegalArgumentException("the second pick is not later");
        }
        return mender.countWays(cards[card], first, second, isSeen);
    }

    public int yarn(int colour) throws IllegalArgumentException {
        needColour(colour);
        return yarnOf(colour);
    }

    public int kinds() {
        int found = 0;
        for (int i = 0; i < cardCount; i++) {
            if (isNewKind(i)) {
                found++;
            }
        }
        return found;
    }

    // ---- hands and orders ----

    public int weaver(int rate) throws IllegalArgumentException, IllegalStateException {
        if (rate < 0 || rate > MOST_RATE) {
            throw new IllegalArgumentException("no such rate");
        }
        if (weaverCount >= MOST_WEAVERS) {
            throw new IllegalStateException("there are 6 weavers");
        }
        rates[weaverCount] = rate;
        weaverCount++;
        return weaverCount - 1;
    }

    public int hand() throws NoSuchElementException {
        if (weaverCount == 0 || pickCount == 0) {
            throw new NoSuchElementException("there are no weavers, or no picks");
        }
        int found = faults(false) + faults(true);
        int nearest = 0;
        int least = Integer.MAX_VALUE;
        for (int i = 0; i < weaverCount; i++) {
            int gap = Math.abs(100 * found - rates[i] * pickCount);
            if (gap < least) {
                least = gap;
                nearest = i;
            }
        }
        return nearest;
    }

    public int order(int picks, int price, int due) throws IllegalArgumentException, IllegalStateException {
        if (picks < 1 || picks > MOST_ORDER_PICKS || price < 1 || price > MOST_PRICE
                || due < 1 || due > MOST_DUE) {
            throw new IllegalArgumentException("picks, price or due day out of range");
        }
        if (book.count >= MOST_ORDERS) {
            throw new IllegalStateException("there are 8 orders");
        }
        book.enter(picks, price, due);
        return book.count - 1;
    }

    public int readyOn(int order) throws IndexOutOfBoundsException {
        if (order < 0 || order >= book.count) {
            throw new IndexOutOfBoundsException("no such order");
        }
        return book.toldDay(order);
    }

    public int brings() {
        int sum = 0;
        for (int i = 0; i < book.count; i++) {
            sum += book.worth(i, book.toldDay(i));
        }
        return sum;
    }

    public int bringsMost() {
        return book.mostWorth();
    }

    // ---- sums over the band ----

    public long checksum() {
        long sum = 7;
        for (int i = 0; i < cardCount; i++) {
            sum = 31 * sum + cards[i].stand;
            sum = 31 * sum + cards[i].twist;
        }
        for (int pick = 0; pick < pickCount; pick++) {
            for (int i = 0; i < cardCount; i++) {
                sum = 31 * sum + cards[i].shownIn(pick, false);
                sum = 31 * sum + cards[i].shownIn(pick, true);
            }
        }
        return 31 * sum + book.count;
    }

    public float rightShare() throws ArithmeticException {
        int squares = cardCount * pickCount;
        if (squares == 0) {
            throw new ArithmeticException("there are no squares");
        }
        int right = 0;
        for (int i = 0; i < cardCount; i++) {
            for (int pick = 0; pick < pickCount; pick++) {
                if (isRight(i, pick)) {
                    right++;
                }
            }
        }
        return (float) right / (float) squares;
    }

    public double meanTwist() throws ArithmeticException {
        if (cardCount == 0) {
            throw new ArithmeticException("there are no cards");
        }
        int sum = 0;
        for (int i = 0; i < cardCount; i++) {
            sum += cards[i].twist;
        }
        return (double) sum / (double) cardCount;
    }

    public boolean isSound() {
        for (int i = 0; i < cardCount; i++) {
            if (!facesLieApart(cards[i]) || !plansHold(i)) {
                return false;
            }
        }
        return yarnOfColours() == yarnOfThreads();
    }

    // ---- what the calls above share ----

    private static void needColour(int colour) {
        if (colour < 0 || colour >= COLOURS) {
            throw new IllegalArgumentException("no such colour");
        }
    }

    private static void needPack(int pack) {
        if (pack < 0 || pack >= PACKS) {
            throw new IllegalArgumentException("no such pack");
        }
    }

    private static void needLetter(char letter) {
        if (letter < 'a' || letter > 'z') {
            throw new IllegalArgumentException("no such letter");
        }
    }

    /** A place is where a pick can lie, be it there or not. */
    private static void needPlace(int pick) {
        if (pick < 0 || pick >= MOST_PICKS) {
            throw new IllegalArgumentException("no pick can lie there");
        }
    }

    private void needCard(int card) {
        if (card < 0 || card >= cardCount) {
            throw new IndexOutOfBoundsException("no such card");
        }
    }

    private void needPick(int pick) {
        if (pick < 0 || pick >= pickCount) {
            throw new IndexOutOfBoundsException("no such pick");
        }
    }

    private void needLast(int last) {
        if (last < pickCount || last >= MOST_PICKS) {
            throw new IllegalArgumentException("no such last pick of a plan");
        }
    }

    private static void needPlan(long plan) {
        if (plan == NO_PLAN) {
            throw new NoSuchElementException("there is no plan");
        }
    }

    /** The mask brings numbers below 0 round as well. */
    private static int standAfter(int stand, int quarters) {
        return (stand + quarters) & (HOLES - 1);
    }

    private static int spanOf(int letters) {
        return letters == 0 ? 0 : letters * LETTER_STEP - 1;
    }

    /** Turn 0 of a plan has the highest bit, so that of like plans the one going forward first is the least. */
    private static long bitOfTurn(int index) {
        return 1L << (MOST_PICKS - 1 - index);
    }

    private static boolean goesForward(long plan, int index) {
        return (plan & bitOfTurn(index)) == 0;
    }

    private Side sideOf(boolean isBack) {
        return isBack ? back : front;
    }

    private int orderedAt(int card, int pick, boolean isBack) {
        Side side = sideOf(isBack);
        return side.hasInk(card, pick, drawn) ? side.ink : side.ground;
    }

    private void putPickIn() {
        for (int i = 0; i < cardCount; i++) {
            cards[i].keepAs(pickCount);
        }
        pickCount++;
    }

    private static boolean isNewPair(Card card, int stand) {
        for (int i = 0; i < stand; i++) {
            if (card.shows(i, false) == card.shows(stand, false)
                    && card.shows(i, true) == card.shows(stand, true)) {
                return false;
            }
        }
        return true;
    }

    private boolean isNewKind(int card) {
        for (int i = 0; i < card; i++) {
            if (cards[i].isOfKindOf(cards[card])) {
                return false;
            }
        }
        return true;
    }

    private long bestPlan(int card, int last) {
        planner.begin(cards[card].stand);
        for (int pick = pickCount; pick <= last; pick++) {
            planOneMore(card, pick);
        }
        return planner.best();
    }

    private void planOneMore(int card, int pick) {
        planner.goOn(cards[card], pick - pickCount,
                orderedAt(card, pick, false), orderedAt(card, pick, true));
    }

    private boolean isFault(int card, int pick, boolean isBack) {
        return cards[card].shownIn(pick, isBack) != orderedAt(card, pick, isBack);
    }

    private boolean isRight(int card, int pick) {
        return !isFault(card, pick, false) && !isFault(card, pick, true);
    }

    private int faultsOn(int card, boolean isBack) {
        int found = 0;
        for (int pick = 0; pick < pickCount; pick++) {
            if (isFault(card, pick, isBack)) {
                found++;
            }
        }
        return found;
    }

    private int yarnOf(int colour) {
        int length = 0;
        for (int i = 0; i < cardCount; i++) {
            for (int hole = 0; hole < HOLES; hole++) {
                if (cards[i].threads[hole] == colour) {
                    length += cards[i].lengthOf(hole, pickCount);
                }
            }
        }
        return length;
    }

    private int yarnOfColours() {
        int length = 0;
        for (int colour = 0; colour < COLOURS; colour++) {
            length += yarnOf(colour);
        }
        return length;
    }

    private int yarnOfThreads() {
        int length = 0;
        for (int i = 0; i < cardCount; i++) {
            for (int hole = 0; hole < HOLES; hole++) {
                length += cards[i].lengthOf(hole, pickCount);
            }
        }
        return length;
    }

    private boolean facesLieApart(Card card) {
        for (int pick = 0; pick < pickCount; pick++) {
            int above = holeOf(card.stands[pick], false);
            int below = holeOf(card.stands[pick], true);
            if (Math.abs(above - below) != HALF_ROUND) {
                return false;
            }
        }
        return true;
    }

    private static int holeOf(int stand, boolean isBack) {
        return isBack ? standAfter(stand, HALF_ROUND) : stand;
    }

    /** Where there is no plan up to a pick, there is none beyond it. */
    private boolean plansHold(int card) {
        planner.begin(cards[card].stand);
        for (int last = pickCount; last < MOST_PICKS; last++) {
            planOneMore(card, last);
            long plan = planner.best();
            if (plan == NO_PLAN) {
                return true;
            }
            if (!wouldBeRight(card, last, plan)) {
                return false;
            }
        }
        return true;
    }

    private boolean wouldBeRight(int card, int last, long plan) {
        int stand = cards[card].stand;
        for (int pick = pickCount; pick <= last; pick++) {
            stand = standAfter(stand, goesForward(plan, pick - pickCount) ? 1 : -1);
            if (cards[card].shows(stand, false) != orderedAt(card, pick, false)
                    || cards[card].shows(stand, true) != orderedAt(card, pick, true)) {
                return false;
            }
        }
        return true;
    }

    /** A card: its threads, where it stands now, and where it stood in each pick. */
    private static final class Card {
        private final int[] threads = new int[HOLES];
        private final int[] stands = new int[MOST_PICKS];
        private final int[] twists = new int[MOST_PICKS];
        private boolean isS;
        private int pack;
        private int stand;
        private int twist;

        private void threadWith(int one, int two, int three, int four, boolean likeS) {
            threads[0] = one;
            threads[1] = two;
            threads[2] = three;
            threads[3] = four;
            isS = likeS;
        }

        private void rotate(boolean isForward) {
            stand = standAfter(stand, isForward ? 1 : -1);
            twist += isForward == isS ? 1 : -1;
        }

        private void keepAs(int pick) {
            stands[pick] = stand;
            twists[pick] = twist;
        }

        private void goBackTo(int pick) {
            stand = stands[pick];
            twist = twists[pick];
        }

        private int shows(int where, boolean isBack) {
            return threads[holeOf(where, isBack)];
        }

        private int shownIn(int pick, boolean isBack) {
            return shows(stands[pick], isBack);
        }

        private boolean stoodStill(int pick) {
            return pick > 0 && stands[pick] == stands[pick - 1];
        }

        private boolean isOnAFace(int hole, int pick) {
            return hole == holeOf(stands[pick], false) || hole == holeOf(stands[pick], true);
        }

        private int lengthOf(int hole, int picks) {
            int length = YARN_A_PICK * picks;
            for (int pick = 1; pick < picks; pick++) {
                if (isOnAFace(hole, pick) && !isOnAFace(hole, pick - 1)) {
                    length += YARN_A_CHANGE;
                }
            }
            return length;
        }

        private boolean isOfKindOf(Card other) {
            if (isS != other.isS) {
                return false;
            }
            for (int from = 0; from < HOLES; from++) {
                if (isLikeFrom(from, other)) {
                    return true;
                }
            }
            return false;
        }

        private boolean isLikeFrom(int from, Card other) {
            for (int hole = 0; hole < HOLES; hole++) {
                if (threads[standAfter(from, hole)] != other.threads[hole]) {
                    return false;
                }
            }
            return true;
        }
    }

    /** A face of the band: its colours, and the motto that is laid on it, if there is one. */
    private static final class Side {
        private final boolean isBack;
        private final int[] letters = new int[MOST_TYPED];
        private int letterCount;
        private int firstCard;
        private int firstPick;
        private int ink = 1;
        private int ground;

        private Side(boolean isBack) {
            this.isBack = isBack;
        }

        private void lay(int[] typed, int typedCount, int card, int pick) {
            System.arraycopy(typed, 0, letters, 0, typedCount);
            letterCount = typedCount;
            firstCard = card;
            firstPick = pick;
        }

        /** The drawings are looked up anew, as a motto's letters are as they are drawn by now. */
        private boolean hasInk(int card, int pick, int[][] drawn) {
            int row = card - firstCard;
            int along = pick - firstPick;
            int span = spanOf(letterCount);
            if (row < 0 || row >= LETTER_ROWS || along < 0 || along >= span) {
                return false;
            }
            int place = isBack ? span - 1 - along : along;
            int column = place % LETTER_STEP;
            if (column >= LETTER_COLUMNS) {
                return false;
            }
            int bits = drawn[letters[place / LETTER_STEP]][row];
            return ((bits >> (LETTER_COLUMNS - 1 - column)) & 1) == 1;
        }
    }

    /**
     * Finds a card's best plan, one turn more at a time. A plan is one number: its reversals above the
     * bits of its turns, so that the least number is the best plan. For each place to stand and each way
     * of the last turn only the least is kept: what can follow depends on nothing else.
     */
    private static final class Planner {
        private long[] reached = new long[HOLES * WAYS_TO_TURN];
        private long[] next = new long[HOLES * WAYS_TO_TURN];

        /** Both ways are begun with, as the first turn is no reversal, whichever way it goes. */
        private void begin(int stand) {
            forget(reached);
            reached[placeOf(stand, true)] = 0;
            reached[placeOf(stand, false)] = 0;
        }

        private void goOn(Card card, int index, int wantedFront, int wantedBack) {
            forget(next);
            for (int stand = 0; stand < HOLES; stand++) {
                if (card.shows(stand, false) == wantedFront && card.shows(stand, true) == wantedBack) {
                    next[placeOf(stand, true)] = leastInto(stand, true, 0);
                    next[placeOf(stand, false)] = leastInto(stand, false, bitOfTurn(index));
                }
            }
            long[] spare = reached;
            reached = next;
            next = spare;
        }

        private long leastInto(int stand, boolean isForward, long bit) {
            int from = standAfter(stand, isForward ? -1 : 1);
            long same = reached[placeOf(from, isForward)];
            long other = reached[placeOf(from, !isForward)];
            if (other != NO_PLAN) {
                other += 1L << MOST_PICKS;
            }
            long least = Math.min(same, other);
            return least == NO_PLAN ? NO_PLAN : least + bit;
        }

        private long best() {
            long least = NO_PLAN;
            for (int i = 0; i < reached.length; i++) {
                least = Math.min(least, reached[i]);
            }
            return least;
        }

        private static int placeOf(int stand, boolean isForward) {
            return stand * WAYS_TO_TURN + (isForward ? 0 : 1);
        }

        private static void forget(long[] row) {
            for (int i = 0; i < row.length; i++) {
                row[i] = NO_PLAN;
            }
        }
    }

    /** Counts the rows of turns by which a card can have gone from one pick to another. */
    private static final class Mender {
        private long[] counts = new long[HOLES];
        private long[] next = new long[HOLES];

        private long countWays(Card card, int first, int second, boolean isSeen) {
            for (int stand = 0; stand < HOLES; stand++) {
                counts[stand] = stand == card.stands[first] ? 1 : 0;
            }
            for (int pick = first + 1; pick <= second; pick++) {
                goOn();
                if (isSeen && pick < second) {
                    dropUnseen(card, card.shownIn(pick, false));
                }
            }
            return counts[card.stands[second]];
        }

        private void goOn() {
            for (int stand = 0; stand < HOLES; stand++) {
                next[stand] = counts[standAfter(stand, -1)] + counts[standAfter(stand, 1)];
            }
            long[] spare = counts;
            counts = next;
            next = spare;
        }

        private void dropUnseen(Card card, int seen) {
            for (int stand = 0; stand < HOLES; stand++) {
                if (card.shows(stand, false) != seen) {
                    counts[stand] = 0;
                }
            }
        }
    }

    /** The orders, woven on one loom. */
    private static final class Book {
        private final int[] days = new int[MOST_ORDERS];
        private final int[] prices = new int[MOST_ORDERS];
        private final int[] dues = new int[MOST_ORDERS];
        private final int[] mostOf = new int[1 << MOST_ORDERS];
        private int count;

        private void enter(int picks, int price, int due) {
            days[count] = (picks + PICKS_A_DAY - 1) / PICKS_A_DAY;
            prices[count] = price;
            dues[count] = due;
            count++;
        }

        private int worth(int order, int day) {
            int late = Math.max(0, day - dues[order]);
            return Math.max(0, prices[order] - late * (prices[order] / 10));
        }

        private int toldDay(int order) {
            int day = 0;
            for (int i = 0; i < count; i++) {
                if (dues[i] < dues[order] || (dues[i] == dues[order] && i <= order)) {
                    day += days[i];
                }
            }
            return day;
        }

        /**
         * Whatever row a set of orders is woven in, its last one is ready on the same day.
         * The empty set, number 0, is never written and brings 0.
         */
        private int mostWorth() {
            int sets = 1 << count;
            for (int set = 1; set < sets; set++) {
                int day = daysOf(set);
                int most = 0;
                for (int i = 0; i < count; i++) {
                    if ((set & (1 << i)) != 0) {
                        most = Math.max(most, mostOf[set & ~(1 << i)] + worth(i, day));
                    }
                }
                mostOf[set] = most;
            }
            return mostOf[sets - 1];
        }

        private int daysOf(int set) {
            int day = 0;
            for (int i = 0; i < count; i++) {
                if ((set & (1 << i)) != 0) {
                    day += days[i];
                }
            }
            return day;
        }
    }
}
