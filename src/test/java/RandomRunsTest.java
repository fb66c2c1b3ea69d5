import java.util.ArrayList;
import java.util.List;
import java.util.Random;

/** Random runs of calls, each answer compared with the plain Model's. The seeds are fixed. */
public final class RandomRunsTest {
    private static final int RUNS = 240;
    private static final int CALLS = 511;

    private final Checks checks = new Checks();
    private final List<String> calls = new ArrayList<>();
    private final Random random;
    private final int liking;
    private LossyLanes real = new LossyLanes();
    private Model model = new Model();

    private RandomRunsTest(int seed) {
        random = new Random(seed);
        liking = seed % 4;
    }

    public static void main(String[] args) {
        long done = 0;
        for (int seed = 0; seed < RUNS; seed++) {
            RandomRunsTest run = new RandomRunsTest(seed);
            run.go();
            if (run.checks.failed()) {
                System.out.println("seed " + seed + ": " + String.join(" ", run.calls));
                System.exit(1);
            }
            done += CALLS;
        }
        System.out.println("all answers of " + done + " calls are as due");
    }

    private void go() {
        int n = 2 + random.nextInt(4);
        n = liking == 0 ? 5 : n;
        due("posts(" + n + ")", real.posts(n) ? 1 : 0, model.posts(n) ? 1 : 0);
        for (int i = 0; i < CALLS && !checks.failed(); i++) {
            call();
        }
    }

    private void due(String call, long got, long want) {
        calls.add(call + "=" + got);
        checks.due(call, got, want);
    }

    /** Mostly from a to b, sometimes just outside, seldom far outside. */
    private int near(int a, int b) {
        int dice = random.nextInt(40);
        if (dice == 0) {
            return a - 1;
        }
        if (dice == 1) {
            return b + 1;
        }
        if (dice == 2) {
            return random.nextInt();
        }
        return dice < 8 ? (random.nextBoolean() ? a : b) : a + random.nextInt(b - a + 1);
    }

    private int shareNumber() {
        return liking == 1 ? near(1, 2) : near(1, 9);
    }

    private void call() {
        int lanes = model.count(1);
        int posts = model.count(0);
        int dice = random.nextInt(lanes < 7 ? 60 : 44);
        boolean lower = random.nextBoolean();
        int lane = near(0, Math.max(0, lanes - 1));
        if (dice >= 43) {
            addLane(posts);
        } else if (dice == 0) {
            int n = random.nextInt(6) == 0 ? near(2, 5) : near(0, 1);
            due("posts(" + n + ")", real.posts(n) ? 1 : 0, model.posts(n) ? 1 : 0);
        } else if (dice < 4) {
            int room = near(0, 100);
            due("room(" + lane + "," + room + ")", real.room(lane, room) ? 1 : 0, model.room(lane, room) ? 1 : 0);
        } else if (dice < 8) {
            changeShare(lane);
        } else if (dice < 11) {
            int what = near(0, 7);
            due("tell(" + lane + "," + what + ")", real.tell(lane, what), model.tell(lane, what));
        } else if (dice < 16) {
            int which = near(0, 2);
            due("most(" + which + "," + lower + ")", real.most(which, lower), model.most(which, lower));
        } else if (dice < 19) {
            int room = near(0, 100);
            due("more(" + lane + "," + room + "," + lower + ")", real.more(lane, room, lower), model.more(lane, room, lower));
        } else if (dice < 27) {
            lookAtRows(dice, posts, lower);
        } else {
            sendOrLook(dice, lane, posts, lower);
        }
    }

    private void addLane(int posts) {
        int from = near(0, posts - 1);
        int to = near(0, posts - 1);
        int room = near(0, 100);
        int p = shareNumber();
        int q = shareNumber();
        due("lane(" + from + "," + to + "," + room + "," + p + "," + q + ")",
            real.lane(from, to, room, p, q), model.lane(from, to, room, p, q));
    }

    private void changeShare(int lane) {
        int p = shareNumber();
        int q = shareNumber();
        int doubt = near(0, 8);
        due("share(" + lane + "," + p + "," + q + "," + doubt + ")",
            real.share(lane, p, q, doubt) ? 1 : 0, model.share(lane, p, q, doubt) ? 1 : 0);
    }

    private void lookAtRows(int dice, int posts, boolean lower) {
        if (dice < 21) {
            int from = near(0, posts - 1);
            int to = near(0, posts - 1);
            due("way(" + from + "," + to + ")", real.way(from, to), model.way(from, to));
        } else if (dice < 23) {
            due("ring()", real.ring(), model.ring());
        } else if (dice < 25) {
            int k = near(0, 3);
            due("row(" + k + ")", real.row(k), model.row(k));
        } else {
            due("gain(" + lower + ")", real.gain(lower), model.gain(lower));
        }
    }

    private void sendOrLook(int dice, int lane, int posts, boolean lower) {
        if (dice < 32) {
            int u = random.nextInt(3) == 0 ? near(0, 1000) : near(0, 9);
            int v = near(1, 9);
            due("send(" + lane + "," + u + "," + v + ")", real.send(lane, u, v) ? 1 : 0, model.send(lane, u, v) ? 1 : 0);
        } else if (dice < 34) {
            due("right()", real.right() ? 1 : 0, model.right() ? 1 : 0);
        } else if (dice < 37) {
            int post = near(0, posts - 1);
            due("left(" + post + "," + lower + ")", real.left(post, lower), model.left(post, lower));
        } else if (dice < 40) {
            int what = near(0, 4);
            due("count(" + what + ")", real.count(what), model.count(what));
        } else if (dice < 42) {
            int k = near(0, 2);
            due("image(" + k + ")", real.image(k) ? 1 : 0, model.image(k) ? 1 : 0);
        } else {
            int k = near(0, 2);
            due("again(" + k + ")", real.again(k) ? 1 : 0, model.again(k) ? 1 : 0);
        }
    }
}
