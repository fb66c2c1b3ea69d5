/**
 * Goods sent from a source to an end over posts, by lanes of which a told share arrives.
 * The document (DOC.md) says what every call answers; README.md says how to use it.
 *
 * All rows are made by the constructor and used again, and no call makes an object, because
 * all the calls of a run live in one room.
 */
public final class LossyLanes {
    public static final int NONE = -1;

    private static final int FEWEST_POSTS = 2;
    private static final int MOST_POSTS = 5;
    private static final int MOST_LANES = 10;
    private static final int MOST_ROOM = 100;
    private static final int MOST_SHARE_NUMBER = 9;
    private static final int MOST_DOUBT = 8;
    private static final int MOST_UPPER_SENT = 1000;
    private static final int MOST_LOWER_SENT = 9;
    private static final int IMAGES = 3;
    private static final int SOURCE = 0;

    // No row of lanes is longer: it passes no post twice.
    private static final int LONGEST_ROW = MOST_POSTS - 1;

    // The numbers of a lane stand in the order in which tell() asks for them.
    private static final int FROM = 0;
    private static final int TO = 1;
    private static final int ROOM = 2;
    private static final int P = 3;
    private static final int Q = 4;
    private static final int DOUBT = 5;
    private static final int U = 6;
    private static final int V = 7;
    private static final int NUMBERS = 8;

    private static final int AS_TOLD = 0;
    private static final int SURE = 1;
    private static final int HOPED = 2;

    // The least number that each of 1 .. 9 divides: sums of amounts are counted in its parts.
    private static final int PARTS = 2520;

    private final Net now = new Net();
    private final Net[] images = new Net[IMAGES];
    private final boolean[] kept = new boolean[IMAGES];

    private final Rows rows = new Rows();
    private final Prices prices = new Prices();
    private final Fraction answer = new Fraction();
    private final Fraction before = new Fraction();
    private final Fraction after = new Fraction();

    public LossyLanes() {
        for (int k = 0; k < IMAGES; k++) {
            images[k] = new Net();
        }
    }

    public boolean posts(int n) {
        if (!within(n, FEWEST_POSTS, MOST_POSTS)) {
            return false;
        }
        now.posts = n;
        now.size = 0;
        // A row is one of lanes, and there are none any more.
        now.dropRow();
        return true;
    }

    public int lane(int from, int to, int room, int p, int q) {
        if (now.size >= MOST_LANES || !now.canLead(from, to)) {
            return NONE;
        }
        if (!isRoom(room) || !isShare(p, q)) {
            return NONE;
        }
        int number = now.size;
        int[] lane = now.lanes[number];
        lane[FROM] = from;
        lane[TO] = to;
        lane[ROOM] = room;
        lane[P] = p;
        lane[Q] = q;
        lane[DOUBT] = 0;
        lane[U] = 0;
        lane[V] = 1;
        now.size = number + 1;
        return number;
    }

    public boolean room(int lane, int room) {
        if (!now.hasLane(lane) || !isRoom(room)) {
            return false;
        }
        now.lanes[lane][ROOM] = room;
        return true;
    }

    public boolean share(int lane, int p, int q, int doubt) {
        if (!now.hasLane(lane) || !isShare(p, q) || !within(doubt, 0, MOST_DOUBT)) {
            return false;
        }
        now.lanes[lane][P] = p;
        now.lanes[lane][Q] = q;
        now.lanes[lane][DOUBT] = doubt;
        return true;
    }

    public int tell(int lane, int what) {
        if (!now.hasLane(lane) || !within(what, 0, NUMBERS - 1)) {
            return NONE;
        }
        return now.lanes[lane][what];
    }

    public long most(int which, boolean lower) {
        if (!within(which, AS_TOLD, HOPED)) {
            return -1;
        }
        prices.load(now, which);
        prices.findLeast(answer);
        return answer.number(lower);
    }

    public long more(int lane, int room, boolean lower) {
        if (!now.hasLane(lane) || !isRoom(room)) {
            return 0;
        }
        prices.load(now, AS_TOLD);
        prices.findLeast(before);
        prices.changeRoom(lane, room);
        prices.findLeast(after);
        answer.setDifference(after, before);
        return answer.number(lower);
    }

    public int way(int from, int to) {
        now.dropRow();
        if (!now.hasPost(from) || !now.hasPost(to) || from == to) {
            return NONE;
        }
        rows.findWays(now, from, to);
        return takeBestRow();
    }

    public int ring() {
        now.dropRow();
        rows.findRings(now);
        return takeBestRow();
    }

    public int row(int k) {
        return within(k, 0, now.handLength - 1) ? now.hand[k] : NONE;
    }

    public long gain(boolean lower) {
        if (now.handLength == 0) {
            return 0;
        }
        now.multiplyShares(now.hand, now.handLength, answer);
        return answer.number(lower);
    }

    public boolean send(int lane, int u, int v) {
        if (!now.hasLane(lane)) {
            return false;
        }
        if (!within(u, 0, MOST_UPPER_SENT) || !within(v, 1, MOST_LOWER_SENT)) {
            return false;
        }
        answer.set(u, v);
        now.lanes[lane][U] = (int) answer.number(false);
        now.lanes[lane][V] = (int) answer.number(true);
        return true;
    }

    public boolean right() {
        for (int i = 0; i < now.size; i++) {
            int[] lane = now.lanes[i];
            if (lane[U] > lane[ROOM] * lane[V]) {
                return false;
            }
        }
        for (int post = SOURCE + 1; post < now.lastPost(); post++) {
            if (now.balance(post) < 0) {
                return false;
            }
        }
        return true;
    }

    public long left(int post, boolean lower) {
        if (!now.hasPost(post)) {
            return 0;
        }
        long balance = now.balance(post);
        answer.set(post == SOURCE ? -balance : balance, (long) PARTS * PARTS);
        return answer.number(lower);
    }

    public int count(int what) {
        switch (what) {
            case 0:
                return now.posts;
            case 1:
                return now.size;
            case 2:
                rows.findRings(now);
                return rows.found;
            case 3:
                rows.findRings(now);
                return rows.gainful;
            case 4:
                return now.handLength;
            default:
                return NONE;
        }
    }

    public boolean image(int k) {
        if (!within(k, 0, IMAGES - 1)) {
            return false;
        }
        images[k].take(now);
        kept[k] = true;
        return true;
    }

    public boolean again(int k) {
        if (!within(k, 0, IMAGES - 1) || !kept[k]) {
            return false;
        }
        now.take(images[k]);
        return true;
    }

    private int takeBestRow() {
        if (rows.bestLength == 0) {
            return NONE;
        }
        now.takeRow(rows.best, rows.bestLength);
        return rows.bestLength;
    }

    private static boolean within(int number, int least, int greatest) {
        return number >= least && number <= greatest;
    }

    private static boolean isRoom(int room) {
        return within(room, 0, MOST_ROOM);
    }

    private static boolean isShare(int p, int q) {
        return within(p, 1, MOST_SHARE_NUMBER) && within(q, 1, MOST_SHARE_NUMBER);
    }

    /** How many of the PARTS one q-th is. */
    private static int partsOfOne(int q) {
        return q < 1 ? 0 : PARTS / q;
    }

    /** A fraction in least terms, its lower number above 0. */
    private static final class Fraction {
        // Euclid's steps on two long numbers stay far below this.
        private static final int MOST_STEPS = 200;

        private long upper = 0;
        private long under = 1;

        void set(long newUpper, long newUnder) {
            long divisor = commonDivisor(Math.abs(newUpper), newUnder);
            upper = newUpper / divisor;
            under = newUnder / divisor;
        }

        void setDifference(Fraction a, Fraction b) {
            set(a.upper * b.under - b.upper * a.under, a.under * b.under);
        }

        long number(boolean lower) {
            return lower ? under : upper;
        }

        boolean isAboveOne() {
            return upper > under;
        }

        /** Above 0 if this one is greater than the other, below 0 if it is less. */
        long compareWith(Fraction other) {
            return upper * other.under - other.upper * under;
        }

        private static long commonDivisor(long a, long b) {
            long x = a;
            long y = b;
            for (int step = 0; step < MOST_STEPS && y != 0; step++) {
                long rest = x % y;
                x = y;
                y = rest;
            }
            return x < 1 ? 1 : x;
        }
    }

    /**
     * All that is: the posts, the lanes with the amounts that are sent, and the row at hand.
     * The row stands here so that an image has it together with its lanes: whatever again()
     * brings back, the row at hand is one of lanes that are there.
     */
    private static final class Net {
        private int posts = FEWEST_POSTS;
        private int size = 0;
        private final int[][] lanes = new int[MOST_LANES][NUMBERS];
        private final int[] hand = new int[LONGEST_ROW];
        private int handLength = 0;

        void take(Net other) {
            posts = other.posts;
            size = other.size;
            for (int i = 0; i < size; i++) {
                System.arraycopy(other.lanes[i], 0, lanes[i], 0, NUMBERS);
            }
            takeRow(other.hand, other.handLength);
        }

        void takeRow(int[] row, int length) {
            System.arraycopy(row, 0, hand, 0, LONGEST_ROW);
            handLength = length;
        }

        void dropRow() {
            handLength = 0;
        }

        int lastPost() {
            return posts - 1;
        }

        boolean hasPost(int post) {
            return within(post, SOURCE, lastPost());
        }

        boolean hasLane(int lane) {
            return within(lane, 0, size - 1);
        }

        boolean canLead(int from, int to) {
            return hasPost(from) && hasPost(to) && from != to && to != SOURCE && from != lastPost();
        }

        /** What arrives at a post less what is sent from it, in parts of 1 / (PARTS * PARTS). */
        long balance(int post) {
            long sum = 0;
            for (int i = 0; i < size; i++) {
                int[] lane = lanes[i];
                long sent = (long) lane[U] * partsOfOne(lane[V]);
                if (lane[TO] == post) {
                    sum += sent * lane[P] * partsOfOne(lane[Q]);
                }
                if (lane[FROM] == post) {
                    sum -= sent * PARTS;
                }
            }
            return sum;
        }

        void multiplyShares(int[] row, int length, Fraction product) {
            long upper = 1;
            long under = 1;
            for (int k = 0; k < length; k++) {
                upper *= lanes[row[k]][P];
                under *= lanes[row[k]][Q];
            }
            product.set(upper, under);
        }
    }

    /** Looks through all rows of lanes of a kind, counts them and keeps the best one. */
    private static final class Rows {
        private final int[] trail = new int[LONGEST_ROW];
        private final Fraction trailGain = new Fraction();
        private final int[] best = new int[LONGEST_ROW];
        private final Fraction bestGain = new Fraction();
        private int bestLength = 0;
        private int goal = 0;
        private boolean onlyGainful = false;
        private int found = 0;
        private int gainful = 0;

        void findWays(Net net, int from, int to) {
            begin(false);
            goal = to;
            walk(net, from, 0, 1 << from);
        }

        void findRings(Net net) {
            begin(true);
            for (int post = 0; post < net.posts; post++) {
                goal = post;
                // A ring begins at its least post, so all up to that one count as passed.
                walk(net, post, 0, (2 << post) - 1);
            }
        }

        private void begin(boolean gainfulAlone) {
            onlyGainful = gainfulAlone;
            bestLength = 0;
            found = 0;
            gainful = 0;
        }

        private void walk(Net net, int post, int depth, int passed) {
            if (depth >= LONGEST_ROW) {
                return;
            }
            for (int i = 0; i < net.size; i++) {
                int[] lane = net.lanes[i];
                if (lane[FROM] != post) {
                    continue;
                }
                int next = lane[TO];
                trail[depth] = i;
                if (next == goal) {
                    weigh(net, depth + 1);
                } else if ((passed & 1 << next) == 0) {
                    walk(net, next, depth + 1, passed | 1 << next);
                }
            }
        }

        private void weigh(Net net, int length) {
            net.multiplyShares(trail, length, trailGain);
            found++;
            if (trailGain.isAboveOne()) {
                gainful++;
            } else if (onlyGainful) {
                return;
            }
            if (bestLength == 0 || trailIsBetter(length)) {
                System.arraycopy(trail, 0, best, 0, length);
                net.multiplyShares(best, length, bestGain);
                bestLength = length;
            }
        }

        private boolean trailIsBetter(int length) {
            long order = trailGain.compareWith(bestGain);
            if (order != 0) {
                return order > 0;
            }
            if (length != bestLength) {
                return length < bestLength;
            }
            for (int k = 0; k < length; k++) {
                if (trail[k] != best[k]) {
                    return trail[k] < best[k];
                }
            }
            return false;
        }
    }

    /**
     * Finds MOST by prices of the posts (the dual of the linear program).
     *
     * Goods at the end are worth 1, at the source nothing, at each post between some price
     * from 0 on. A lane is then worth room * max(0, share * price(to) - price(from)), and the
     * sum over all lanes is nowhere below MOST and, at the best prices, just MOST. That sum
     * bends only where a lane is worth nothing just so, or where a price is 0; each such place
     * is a plane, and the least sum stands at a corner where three planes meet. There are at
     * most 13 planes, so all corners are tried, in whole numbers: the price of the end is the
     * common lower number of the others. (It is at most 17 * 17 * 17, and all products stay
     * below 10^16, so nothing wraps around.)
     *
     * No price at a corner comes out below 0: it is 0, or shares multiplied and divided along
     * the lanes that tie its post to the end.
     */
    private static final class Prices {
        private static final int FIRST_BETWEEN = 1;
        private static final int BETWEEN = MOST_POSTS - 2;
        // The end is put here however many posts there are: then the corners need no cases.
        private static final int END = MOST_POSTS - 1;

        private final int[] from = new int[MOST_LANES];
        private final int[] to = new int[MOST_LANES];
        private final int[] rooms = new int[MOST_LANES];
        private final int[] p = new int[MOST_LANES];
        private final int[] q = new int[MOST_LANES];
        private int size = 0;
        private final int[][] planes = new int[BETWEEN + MOST_LANES][MOST_POSTS];
        private int planeCount = 0;
        private final long[] price = new long[MOST_POSTS];
        private long m12 = 0;
        private long m13 = 0;
        private long m14 = 0;
        private long m23 = 0;
        private long m24 = 0;
        private long m34 = 0;
        private long leastSum = 0;
        private long leastUnder = 0;

        void load(Net net, int which) {
            size = net.size;
            for (int i = 0; i < size; i++) {
                int[] lane = net.lanes[i];
                from[i] = lane[FROM];
                to[i] = lane[TO] == net.lastPost() ? END : lane[TO];
                rooms[i] = lane[ROOM];
                p[i] = upperOfShare(lane, which);
                q[i] = lane[Q];
            }
        }

        void changeRoom(int lane, int room) {
            rooms[lane] = room;
        }

        void findLeast(Fraction least) {
            layPlanes();
            leastUnder = 0;
            for (int i = 0; i < planeCount; i++) {
                for (int j = i + 1; j < planeCount; j++) {
                    crossTwo(planes[i], planes[j]);
                    for (int k = j + 1; k < planeCount; k++) {
                        if (meetsAtCorner(planes[k])) {
                            weighCorner();
                        }
                    }
                }
            }
            least.set(leastSum, PARTS * leastUnder);
        }

        private static int upperOfShare(int[] lane, int which) {
            if (which == SURE) {
                return Math.max(0, lane[P] - lane[DOUBT]);
            }
            return which == HOPED ? lane[P] + lane[DOUBT] : lane[P];
        }

        private void layPlanes() {
            planeCount = 0;
            for (int post = FIRST_BETWEEN; post < END; post++) {
                emptyPlane()[post] = 1;
            }
            for (int i = 0; i < size; i++) {
                if (bendsTheSum(i)) {
                    int[] plane = emptyPlane();
                    plane[to[i]] = p[i];
                    plane[from[i]] = -q[i];
                }
            }
        }

        private int[] emptyPlane() {
            int[] plane = planes[planeCount];
            planeCount++;
            for (int post = 0; post < MOST_POSTS; post++) {
                plane[post] = 0;
            }
            return plane;
        }

        /** A lane from the source is worth nothing only where a price is 0: that plane is laid. */
        private boolean bendsTheSum(int lane) {
            return from[lane] != SOURCE && rooms[lane] > 0 && p[lane] > 0;
        }

        private void crossTwo(int[] a, int[] b) {
            m12 = a[1] * b[2] - a[2] * b[1];
            m13 = a[1] * b[3] - a[3] * b[1];
            m14 = a[1] * b[4] - a[4] * b[1];
            m23 = a[2] * b[3] - a[3] * b[2];
            m24 = a[2] * b[4] - a[4] * b[2];
            m34 = a[3] * b[4] - a[4] * b[3];
        }

        /** Whether the two crossed planes meet this one at one corner: then its prices are set. */
        private boolean meetsAtCorner(int[] c) {
            long end = c[2] * m13 - c[1] * m23 - c[3] * m12;
            if (end == 0) {
                return false;
            }
            int sign = end > 0 ? 1 : -1;
            price[1] = sign * (c[2] * m34 - c[3] * m24 + c[4] * m23);
            price[2] = sign * (c[3] * m14 - c[1] * m34 - c[4] * m13);
            price[3] = sign * (c[1] * m24 - c[2] * m14 + c[4] * m12);
            price[END] = sign * end;
            return true;
        }

        private void weighCorner() {
            long sum = 0;
            for (int i = 0; i < size; i++) {
                long worth = p[i] * price[to[i]] - q[i] * price[from[i]];
                if (worth > 0) {
                    sum += rooms[i] * partsOfOne(q[i]) * worth;
                }
            }
            if (leastUnder == 0 || sum * leastUnder < leastSum * price[END]) {
                leastSum = sum;
                leastUnder = price[END];
            }
        }
    }
}
