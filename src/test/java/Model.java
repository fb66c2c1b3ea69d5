import java.math.BigInteger;
import java.util.ArrayList;
import java.util.List;

/**
 * The document once more, in the plainest form and by other means than the class: a simplex
 * method on exact fractions for MOST, and all rows of lane numbers tried one by one for ways
 * and rings. It has the same calls, so that random runs can be compared.
 */
final class Model {
    static final int NONE = -1;

    /** An exact fraction in least terms. */
    record Ratio(BigInteger up, BigInteger low) implements Comparable<Ratio> {
        static final Ratio ZERO = of(0, 1);
        static final Ratio ONE = of(1, 1);

        Ratio {
            if (low.signum() == 0) {
                throw new IllegalArgumentException("lower number 0");
            }
            if (low.signum() < 0) {
                up = up.negate();
                low = low.negate();
            }
            BigInteger g = up.gcd(low);
            up = up.divide(g);
            low = low.divide(g);
        }

        static Ratio of(long up, long low) {
            return new Ratio(BigInteger.valueOf(up), BigInteger.valueOf(low));
        }

        Ratio plus(Ratio o) {
            return new Ratio(up.multiply(o.low).add(o.up.multiply(low)), low.multiply(o.low));
        }

        Ratio minus(Ratio o) {
            return plus(new Ratio(o.up.negate(), o.low));
        }

        Ratio times(Ratio o) {
            return new Ratio(up.multiply(o.up), low.multiply(o.low));
        }

        Ratio over(Ratio o) {
            return new Ratio(up.multiply(o.low), low.multiply(o.up));
        }

        int sign() {
            return up.signum();
        }

        @Override
        public int compareTo(Ratio o) {
            return minus(o).sign();
        }

        long told(boolean lower) {
            return (lower ? low : up).longValueExact();
        }
    }

    private record Lane(int from, int to, int room, int p, int q, int doubt, Ratio sent) {
        Ratio shared() {
            return Ratio.of(p, q);
        }

        Ratio arrives() {
            return sent.times(shared());
        }
    }

    private record Told(int n, List<Lane> lanes, List<Integer> hand) {
    }

    private int n = 2;
    private List<Lane> lanes = new ArrayList<>();
    private List<Integer> hand = null;
    private final Told[] images = new Told[3];

    boolean posts(int newN) {
        if (newN < 2 || newN > 5) {
            return false;
        }
        n = newN;
        lanes = new ArrayList<>();
        hand = null;
        return true;
    }

    private boolean isPost(int x) {
        return x >= 0 && x < n;
    }

    private boolean isLane(int x) {
        return x >= 0 && x < lanes.size();
    }

    private static boolean in(int x, int a, int b) {
        return x >= a && x <= b;
    }

    int lane(int from, int to, int room, int p, int q) {
        if (lanes.size() == 10 || !isPost(from) || !isPost(to) || from == to || to == 0 || from == n - 1) {
            return NONE;
        }
        if (!in(room, 0, 100) || !in(p, 1, 9) || !in(q, 1, 9)) {
            return NONE;
        }
        lanes.add(new Lane(from, to, room, p, q, 0, Ratio.ZERO));
        return lanes.size() - 1;
    }

    boolean room(int lane, int room) {
        if (!isLane(lane) || !in(room, 0, 100)) {
            return false;
        }
        lanes.set(lane, withRoom(lanes.get(lane), room));
        return true;
    }

    private static Lane withRoom(Lane o, int room) {
        return new Lane(o.from, o.to, room, o.p, o.q, o.doubt, o.sent);
    }

    boolean share(int lane, int p, int q, int doubt) {
        if (!isLane(lane) || !in(p, 1, 9) || !in(q, 1, 9) || !in(doubt, 0, 8)) {
            return false;
        }
        Lane o = lanes.get(lane);
        lanes.set(lane, new Lane(o.from, o.to, o.room, p, q, doubt, o.sent));
        return true;
    }

    int tell(int lane, int what) {
        if (!isLane(lane)) {
            return NONE;
        }
        Lane o = lanes.get(lane);
        return switch (what) {
            case 0 -> o.from;
            case 1 -> o.to;
            case 2 -> o.room;
            case 3 -> o.p;
            case 4 -> o.q;
            case 5 -> o.doubt;
            case 6 -> (int) o.sent.told(false);
            case 7 -> (int) o.sent.told(true);
            default -> NONE;
        };
    }

    long most(int which, boolean lower) {
        return which < 0 || which > 2 ? -1 : solve(which, lanes).told(lower);
    }

    long more(int lane, int room, boolean lower) {
        if (!isLane(lane) || !in(room, 0, 100)) {
            return 0;
        }
        List<Lane> others = new ArrayList<>(lanes);
        others.set(lane, withRoom(lanes.get(lane), room));
        return solve(0, others).minus(solve(0, lanes)).told(lower);
    }

    private static Ratio shareFor(Lane o, int which) {
        int p = which == 0 ? o.p : which == 1 ? Math.max(0, o.p - o.doubt) : o.p + o.doubt;
        return Ratio.of(p, o.q);
    }

    /** The simplex method with Bland's rule, over the amounts sent; all amounts 0 is a start. */
    private Ratio solve(int which, List<Lane> net) {
        int m = net.size();
        int rows = m + Math.max(0, n - 2);
        int columns = m + rows;
        Ratio[][] t = new Ratio[rows + 1][columns + 1];
        for (Ratio[] row : t) {
            java.util.Arrays.fill(row, Ratio.ZERO);
        }
        int[] basis = new int[rows];
        for (int r = 0; r < rows; r++) {
            basis[r] = m + r;
            t[r][m + r] = Ratio.ONE;
        }
        for (int i = 0; i < m; i++) {
            Lane o = net.get(i);
            t[i][i] = Ratio.ONE;
            t[i][columns] = Ratio.of(o.room, 1);
            if (o.from != 0) {
                t[m + o.from - 1][i] = Ratio.ONE;
            }
            if (o.to == n - 1) {
                t[rows][i] = Ratio.ZERO.minus(shareFor(o, which));
            } else {
                t[m + o.to - 1][i] = Ratio.ZERO.minus(shareFor(o, which));
            }
        }
        while (true) {
            int enter = -1;
            for (int c = 0; c < columns && enter < 0; c++) {
                if (t[rows][c].sign() < 0) {
                    enter = c;
                }
            }
            if (enter < 0) {
                return t[rows][columns];
            }
            pivot(t, basis, leaving(t, basis, enter), enter);
        }
    }

    private static int leaving(Ratio[][] t, int[] basis, int enter) {
        int last = t[0].length - 1;
        int leave = -1;
        Ratio least = null;
        for (int r = 0; r < basis.length; r++) {
            if (t[r][enter].sign() <= 0) {
                continue;
            }
            Ratio step = t[r][last].over(t[r][enter]);
            int order = least == null ? -1 : step.compareTo(least);
            if (order < 0 || order == 0 && basis[r] < basis[leave]) {
                leave = r;
                least = step;
            }
        }
        return leave;
    }

    private static void pivot(Ratio[][] t, int[] basis, int leave, int enter) {
        Ratio by = t[leave][enter];
        for (int c = 0; c < t[leave].length; c++) {
            t[leave][c] = t[leave][c].over(by);
        }
        for (int r = 0; r < t.length; r++) {
            Ratio factor = t[r][enter];
            if (r == leave || factor.sign() == 0) {
                continue;
            }
            for (int c = 0; c < t[r].length; c++) {
                if (t[leave][c].sign() != 0) {
                    t[r][c] = t[r][c].minus(factor.times(t[leave][c]));
                }
            }
        }
        basis[leave] = enter;
    }

    int way(int from, int to) {
        hand = null;
        if (isPost(from) && isPost(to) && from != to) {
            for (List<Integer> row : allRows()) {
                if (isWay(row, from, to) && (hand == null || better(row, hand))) {
                    hand = row;
                }
            }
        }
        return hand == null ? NONE : hand.size();
    }

    int ring() {
        hand = null;
        for (List<Integer> row : allRows()) {
            if (isRing(row) && gainOf(row).compareTo(Ratio.ONE) > 0 && (hand == null || better(row, hand))) {
                hand = row;
            }
        }
        return hand == null ? NONE : hand.size();
    }

    /** Every row of one to four lane numbers in which each lane begins where the one ahead leads to. */
    private List<List<Integer>> allRows() {
        List<List<Integer>> all = new ArrayList<>();
        List<List<Integer>> longest = List.of(List.of());
        for (int length = 1; length <= 4; length++) {
            List<List<Integer>> next = new ArrayList<>();
            for (List<Integer> row : longest) {
                for (int i = 0; i < lanes.size(); i++) {
                    if (row.isEmpty() || lanes.get(row.get(row.size() - 1)).to == lanes.get(i).from) {
                        List<Integer> longer = new ArrayList<>(row);
                        longer.add(i);
                        next.add(longer);
                    }
                }
            }
            all.addAll(next);
            longest = next;
        }
        return all;
    }

    private boolean isWay(List<Integer> row, int from, int to) {
        List<Integer> passed = new ArrayList<>();
        passed.add(lanes.get(row.get(0)).from);
        for (int i : row) {
            passed.add(lanes.get(i).to);
        }
        return passed.get(0) == from && passed.get(row.size()) == to
            && passed.stream().distinct().count() == passed.size();
    }

    private boolean isRing(List<Integer> row) {
        List<Integer> begins = new ArrayList<>();
        for (int i : row) {
            begins.add(lanes.get(i).from);
        }
        int least = begins.stream().mapToInt(x -> x).min().orElseThrow();
        return begins.get(0) == least && lanes.get(row.get(row.size() - 1)).to == least
            && begins.stream().distinct().count() == begins.size();
    }

    private Ratio gainOf(List<Integer> row) {
        Ratio product = Ratio.ONE;
        for (int i : row) {
            product = product.times(lanes.get(i).shared());
        }
        return product;
    }

    private boolean better(List<Integer> a, List<Integer> b) {
        int order = gainOf(a).compareTo(gainOf(b));
        if (order != 0 || a.size() != b.size()) {
            return order != 0 ? order > 0 : a.size() < b.size();
        }
        for (int k = 0; k < a.size(); k++) {
            if (!a.get(k).equals(b.get(k))) {
                return a.get(k) < b.get(k);
            }
        }
        return false;
    }

    int row(int k) {
        return hand == null || k < 0 || k >= hand.size() ? NONE : hand.get(k);
    }

    long gain(boolean lower) {
        return hand == null ? 0 : gainOf(hand).told(lower);
    }

    boolean send(int lane, int u, int v) {
        if (!isLane(lane) || !in(u, 0, 1000) || !in(v, 1, 9)) {
            return false;
        }
        Lane o = lanes.get(lane);
        lanes.set(lane, new Lane(o.from, o.to, o.room, o.p, o.q, o.doubt, Ratio.of(u, v)));
        return true;
    }

    boolean right() {
        for (Lane o : lanes) {
            if (o.sent.compareTo(Ratio.of(o.room, 1)) > 0) {
                return false;
            }
        }
        for (int post = 1; post < n - 1; post++) {
            if (arrivesAt(post).compareTo(sentFrom(post)) < 0) {
                return false;
            }
        }
        return true;
    }

    private Ratio arrivesAt(int post) {
        Ratio sum = Ratio.ZERO;
        for (Lane o : lanes) {
            sum = o.to == post ? sum.plus(o.arrives()) : sum;
        }
        return sum;
    }

    private Ratio sentFrom(int post) {
        Ratio sum = Ratio.ZERO;
        for (Lane o : lanes) {
            sum = o.from == post ? sum.plus(o.sent) : sum;
        }
        return sum;
    }

    long left(int post, boolean lower) {
        if (!isPost(post)) {
            return 0;
        }
        if (post == 0) {
            return sentFrom(0).told(lower);
        }
        return (post == n - 1 ? arrivesAt(post) : arrivesAt(post).minus(sentFrom(post))).told(lower);
    }

    int count(int what) {
        return switch (what) {
            case 0 -> n;
            case 1 -> lanes.size();
            case 2 -> (int) allRows().stream().filter(this::isRing).count();
            case 3 -> (int) allRows().stream().filter(r -> isRing(r) && gainOf(r).compareTo(Ratio.ONE) > 0).count();
            case 4 -> hand == null ? 0 : hand.size();
            default -> NONE;
        };
    }

    boolean image(int k) {
        if (k < 0 || k > 2) {
            return false;
        }
        images[k] = new Told(n, new ArrayList<>(lanes), hand);
        return true;
    }

    boolean again(int k) {
        if (k < 0 || k > 2 || images[k] == null) {
            return false;
        }
        n = images[k].n;
        lanes = new ArrayList<>(images[k].lanes);
        hand = images[k].hand;
        return true;
    }
}
