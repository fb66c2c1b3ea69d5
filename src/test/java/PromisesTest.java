/** For each promise of the document: ordinary inputs, its edges, and wrong inputs, worked by hand. */
public final class PromisesTest extends ByHand {
    private static final int[] FAR = {Integer.MIN_VALUE, -1000, 1001, Integer.MAX_VALUE};

    public static void main(String[] args) {
        newObject();
        postsAreSet();
        lanesAreMade();
        lanesThatCannotBe();
        roomChanges();
        shareChanges();
        lanesAreTold();
        mostOnOneLane();
        mostOverPosts();
        mostWithRings();
        sureAndHoped();
        moreOrLess();
        bestWay();
        bestWayOfSeveral();
        noWay();
        firstRing();
        firstRingOfSeveral();
        rowAtHand();
        gainOfRow();
        amountsAreSent();
        flowIsRight();
        leftAtPosts();
        counts();
        imagesAndAgain();
        rowAfterAgain();
        C.end();
    }

    // Promise 1
    private static void newObject() {
        LossyLanes x = new LossyLanes();
        C.due("NONE", LossyLanes.NONE, -1);
        C.due("new: posts", x.count(0), 2);
        C.due("new: lanes", x.count(1), 0);
        C.due("new: rings", x.count(2), 0);
        C.due("new: gainful rings", x.count(3), 0);
        dueNoHand(x, "new");
        for (int k = -1; k <= 3; k++) {
            C.due("new: again(" + k + ")", x.again(k), false);
        }
        for (int which = 0; which <= 2; which++) {
            dueMost(x, which, 0, 1);
        }
        C.due("new: right", x.right(), true);
        dueLeft(x, 0, 0, 1);
        dueLeft(x, 1, 0, 1);
        dueLeft(x, 2, 0, 0);
    }

    // Promise 2
    private static void postsAreSet() {
        for (int n = 2; n <= 5; n++) {
            LossyLanes x = net(n, l(0, n - 1, 1, 1, 1));
            C.due("posts", x.count(0), n);
            C.due("posts again", x.posts(n), true);
            C.due("no lanes after posts", x.count(1), 0);
            C.due("tell after posts", x.tell(0, 0), NONE);
            C.due("way after posts", x.way(0, n - 1), NONE);
            C.due("the end is n - 1", x.lane(n - 1, n - 1, 1, 1, 1), NONE);
            C.due("lanes count from 0 again", x.lane(0, n - 1, 1, 1, 1), 0);
        }
        LossyLanes x = net(3, l(0, 1, 1, 1, 1), l(1, 2, 1, 1, 1));
        for (int n : new int[] {-1, 0, 1, 6, Integer.MIN_VALUE, Integer.MAX_VALUE}) {
            C.due("posts(" + n + ")", x.posts(n), false);
        }
        C.due("posts stay", x.count(0), 3);
        C.due("lanes stay", x.count(1), 2);
        C.due("way", x.way(0, 2), 2);
        C.due("posts(1)", x.posts(1), false);
        dueHand(x, "a refused posts leaves the row", 1, 1, 0, 1);
        C.due("posts(3)", x.posts(3), true);
        dueNoHand(x, "posts takes the lanes, so the row");
        x.lane(0, 1, 5, 3, 1);
        dueNoHand(x, "a new lane brings no row back");
        dueLeft(x, 0, 0, 1);
    }

    // Promise 3
    private static void lanesAreMade() {
        LossyLanes x = new LossyLanes();
        for (int i = 0; i < 10; i++) {
            C.due("lane " + i, x.lane(0, 1, i * 11, 9, 1 + i % 9), i);
        }
        C.due("an eleventh lane", x.lane(0, 1, 1, 1, 1), NONE);
        C.due("ten lanes", x.count(1), 10);
        C.due("no doubt", x.tell(9, 5), 0);
        C.due("nothing sent: u", x.tell(9, 6), 0);
        C.due("nothing sent: v", x.tell(9, 7), 1);
        LossyLanes y = net(2, l(0, 1, 1, 1, 1));
        y.share(0, 5, 5, 5);
        y.send(0, 5, 7);
        y.posts(2);
        y.lane(0, 1, 0, 1, 9);
        C.due("a lane made anew has no doubt", y.tell(0, 5), 0);
        C.due("a lane made anew sends nothing: u", y.tell(0, 6), 0);
        C.due("a lane made anew sends nothing: v", y.tell(0, 7), 1);
    }

    private static void lanesThatCannotBe() {
        for (int n = 2; n <= 5; n++) {
            for (int from = -1; from <= n; from++) {
                for (int to = -1; to <= n; to++) {
                    LossyLanes x = net(n);
                    boolean can = from >= 0 && from < n - 1 && to > 0 && to < n && from != to;
                    C.due("n " + n + ": lane(" + from + "," + to + ")", x.lane(from, to, 1, 1, 1), can ? 0 : NONE);
                    C.due("lanes", x.count(1), can ? 1 : 0);
                }
            }
        }
        LossyLanes x = new LossyLanes();
        int[][] wrong = {l(0, 1, -1, 1, 1), l(0, 1, 101, 1, 1), l(0, 1, 1, 0, 1), l(0, 1, 1, 10, 1),
            l(0, 1, 1, 1, 0), l(0, 1, 1, 1, 10), l(0, 1, 1, -1, -1), l(0, 2, 1, 1, 1)};
        for (int[] w : wrong) {
            C.due("lane that can't be", x.lane(w[0], w[1], w[2], w[3], w[4]), NONE);
        }
        for (int far : FAR) {
            C.due("lane from far", x.lane(far, 1, 1, 1, 1), NONE);
            C.due("lane to far", x.lane(0, far, 1, 1, 1), NONE);
            C.due("lane, far room", x.lane(0, 1, far, 1, 1), NONE);
            C.due("lane, far p", x.lane(0, 1, 1, far, 1), NONE);
            C.due("lane, far q", x.lane(0, 1, 1, 1, far), NONE);
        }
        C.due("none was made", x.count(1), 0);
    }

    // Promise 4
    private static void roomChanges() {
        LossyLanes x = net(2, l(0, 1, 5, 1, 2), l(0, 1, 7, 1, 1));
        C.due("room(0,0)", x.room(0, 0), true);
        dueMost(x, 0, 7, 1);
        C.due("room(0,100)", x.room(0, 100), true);
        dueMost(x, 0, 57, 1);
        C.due("told room", x.tell(0, 2), 100);
        C.due("other room", x.tell(1, 2), 7);
        C.due("room 101", x.room(0, 101), false);
        C.due("room -1", x.room(0, -1), false);
        C.due("lane -1", x.room(-1, 1), false);
        C.due("lane 2", x.room(2, 1), false);
        for (int far : FAR) {
            C.due("far room", x.room(0, far), false);
            C.due("far lane", x.room(far, 1), false);
        }
        C.due("room stays", x.tell(0, 2), 100);
    }

    // Promise 5
    private static void shareChanges() {
        LossyLanes x = net(2, l(0, 1, 10, 1, 2), l(0, 1, 10, 1, 1));
        C.due("share", x.share(0, 9, 4, 8), true);
        C.due("p", x.tell(0, 3), 9);
        C.due("q", x.tell(0, 4), 4);
        C.due("doubt", x.tell(0, 5), 8);
        C.due("p of the other", x.tell(1, 3), 1);
        dueMost(x, 0, 65, 2);
        int[][] wrong = {{0, 0, 1, 0}, {0, 10, 1, 0}, {0, 1, 0, 0}, {0, 1, 10, 0}, {0, 1, 1, -1}, {0, 1, 1, 9},
            {-1, 1, 1, 0}, {2, 1, 1, 0}};
        for (int[] w : wrong) {
            C.due("wrong share", x.share(w[0], w[1], w[2], w[3]), false);
        }
        for (int far : FAR) {
            C.due("far share", x.share(far, 1, 1, 0) || x.share(0, far, 1, 0), false);
            C.due("far share", x.share(0, 1, far, 0) || x.share(0, 1, 1, far), false);
        }
        C.due("p stays", x.tell(0, 3), 9);
        C.due("q stays", x.tell(0, 4), 4);
        C.due("doubt stays", x.tell(0, 5), 8);
        C.due("share 6 / 8 is told as it is", x.share(0, 6, 8, 0), true);
        C.due("p", x.tell(0, 3), 6);
        C.due("q", x.tell(0, 4), 8);
    }

    // Promise 6
    private static void lanesAreTold() {
        LossyLanes x = net(5, l(0, 3, 42, 2, 4), l(3, 1, 0, 9, 1));
        x.share(0, 4, 6, 3);
        x.send(0, 999, 6);
        int[] due = {0, 3, 42, 4, 6, 3, 333, 2};
        for (int what = 0; what < due.length; what++) {
            C.due("tell(0," + what + ")", x.tell(0, what), due[what]);
        }
        int[] other = {3, 1, 0, 9, 1, 0, 0, 1};
        for (int what = 0; what < other.length; what++) {
            C.due("tell(1," + what + ")", x.tell(1, what), other[what]);
        }
        for (int what : new int[] {-1, 8, Integer.MIN_VALUE, Integer.MAX_VALUE}) {
            C.due("tell(0," + what + ")", x.tell(0, what), NONE);
        }
        for (int lane : new int[] {-1, 2, 9, 10, Integer.MIN_VALUE, Integer.MAX_VALUE}) {
            C.due("tell(" + lane + ",0)", x.tell(lane, 0), NONE);
        }
    }

    // Promise 7
    private static void mostOnOneLane() {
        dueMost(net(2, l(0, 1, 100, 9, 1)), 0, 900, 1);
        dueMost(net(2, l(0, 1, 1, 1, 9)), 0, 1, 9);
        dueMost(net(2, l(0, 1, 0, 9, 1)), 0, 0, 1);
        dueMost(net(2, l(0, 1, 6, 3, 9), l(0, 1, 5, 1, 7)), 0, 19, 7);
        LossyLanes x = net(2, l(0, 1, 3, 1, 2));
        for (int which : new int[] {-1, 3, Integer.MIN_VALUE, Integer.MAX_VALUE}) {
            C.due("most(" + which + ")", x.most(which, false), x.most(which, true), -1, -1);
        }
    }

    private static void mostOverPosts() {
        dueMost(net(3, l(0, 1, 10, 1, 2), l(1, 2, 100, 2, 3)), 0, 10, 3);
        dueMost(net(3, l(0, 1, 100, 1, 2), l(1, 2, 7, 2, 3)), 0, 14, 3);
        dueMost(net(3, l(0, 1, 100, 1, 2)), 0, 0, 1);
        dueMost(net(3, l(1, 2, 100, 1, 2)), 0, 0, 1);
        // 9 arrive at 1; the better lane takes 4 of them, the other one the rest
        dueMost(net(4, l(0, 1, 9, 1, 1), l(1, 3, 100, 1, 3), l(1, 2, 4, 1, 2), l(2, 3, 100, 3, 1)), 0, 23, 3);
        // a chain over all posts, narrow at its third lane
        dueMost(net(5, l(0, 1, 90, 2, 3), l(1, 2, 100, 3, 4), l(2, 3, 20, 5, 2), l(3, 4, 100, 1, 7)), 0, 50, 7);
        // all ten lanes: (1/9 + 1/8 + 1/7 + 1/5) / 7 over 1 and 2, and 1/9 over 2, and 1/9 straight
        dueMost(net(4, l(0, 1, 1, 1, 9), l(0, 1, 1, 1, 8), l(0, 1, 1, 1, 7), l(0, 1, 1, 1, 5), l(0, 2, 1, 1, 9),
            l(1, 2, 100, 1, 7), l(2, 1, 100, 1, 8), l(1, 3, 100, 1, 9), l(2, 3, 100, 1, 1), l(0, 3, 1, 1, 9)),
            0, 1793, 5880);
    }

    private static void mostWithRings() {
        // 1 -> 2 -> 1 doubles what goes round, out of nothing, as far as there is room
        LossyLanes x = net(4, l(1, 2, 10, 2, 1), l(2, 1, 100, 1, 1), l(2, 3, 100, 1, 1));
        dueMost(x, 0, 10, 1);
        x.share(1, 1, 2, 0);
        dueMost(x, 0, 0, 1);
        x.share(1, 5, 9, 0);
        // of 20 that arrive at 2, 18 go back and bring 10; 2 are left for the end
        dueMost(x, 0, 2, 1);
        // a ring that loses does not help
        LossyLanes y = net(4, l(0, 1, 8, 1, 1), l(1, 2, 100, 1, 2), l(2, 1, 100, 1, 1), l(1, 3, 5, 1, 1), l(2, 3, 1, 1, 1));
        dueMost(y, 0, 6, 1);
        LossyLanes z = net(5, l(1, 2, 9, 3, 1), l(2, 3, 100, 1, 1), l(3, 1, 100, 1, 2), l(3, 4, 100, 7, 9));
        // 27 arrive at 2 and go to 3; 18 of them bring the 9 back; 9 go on
        dueMost(z, 0, 7, 1);
    }

    private static void sureAndHoped() {
        LossyLanes x = net(3, l(0, 1, 10, 3, 4), l(1, 2, 100, 2, 3), l(0, 2, 1, 1, 1));
        for (int which = 0; which <= 2; which++) {
            dueMost(x, which, 6, 1);
        }
        x.share(0, 3, 4, 1);
        x.share(1, 2, 3, 1);
        dueMost(x, 0, 6, 1);
        dueMost(x, 1, 8, 3);
        dueMost(x, 2, 11, 1);
        x.share(0, 3, 4, 3);
        dueMost(x, 1, 1, 1);
        x.share(0, 3, 4, 8);
        dueMost(x, 1, 1, 1);
        dueMost(x, 2, 57, 2);
        x.share(2, 1, 1, 8);
        dueMost(x, 1, 0, 1);
        dueMost(x, 2, 73, 2);
        // the widest numbers there are
        LossyLanes y = net(2, l(0, 1, 100, 9, 1));
        y.share(0, 9, 1, 8);
        dueMost(y, 1, 100, 1);
        dueMost(y, 2, 1700, 1);
    }

    // Promise 8
    private static void moreOrLess() {
        LossyLanes x = net(3, l(0, 1, 10, 1, 2), l(1, 2, 4, 2, 3));
        dueMost(x, 0, 8, 3);
        dueMore(x, 1, 5, 2, 3);
        dueMore(x, 1, 100, 2, 3);
        dueMore(x, 1, 0, -8, 3);
        dueMore(x, 1, 4, 0, 1);
        dueMore(x, 0, 9, 0, 1);
        dueMore(x, 0, 5, -1, 1);
        dueMore(x, 0, 100, 0, 1);
        dueMore(x, 0, -1, 0, 0);
        dueMore(x, 0, 101, 0, 0);
        dueMore(x, -1, 5, 0, 0);
        dueMore(x, 2, 5, 0, 0);
        for (int far : FAR) {
            dueMore(x, far, 5, 0, 0);
            dueMore(x, 0, far, 0, 0);
        }
        C.due("the room stays", x.tell(1, 2), 4);
        dueMost(x, 0, 8, 3);
        // doubt does not count in MOST
        x.share(1, 2, 3, 2);
        dueMore(x, 1, 5, 2, 3);
        // a lane that was shut
        LossyLanes y = net(4, l(1, 2, 0, 9, 1), l(2, 1, 100, 1, 1), l(2, 3, 100, 1, 1));
        dueMost(y, 0, 0, 1);
        dueMore(y, 0, 1, 8, 1);
    }

    // Promise 9
    private static void bestWay() {
        LossyLanes x = net(4, l(0, 1, 0, 1, 2), l(1, 3, 1, 1, 2), l(0, 2, 1, 1, 3), l(2, 3, 1, 1, 1), l(0, 3, 100, 1, 4));
        C.due("way(0,3)", x.way(0, 3), 2);
        dueHand(x, "the greatest gain", 1, 3, 2, 3);
        C.due("way(0,1)", x.way(0, 1), 1);
        dueHand(x, "room 0 does not matter", 1, 2, 0);
        C.due("way(2,3)", x.way(2, 3), 1);
        dueHand(x, "from a post between", 1, 1, 3);
        LossyLanes y = net(5, l(3, 4, 1, 9, 1), l(2, 3, 1, 9, 1), l(1, 2, 1, 9, 1), l(0, 1, 1, 9, 1), l(0, 4, 1, 9, 1));
        C.due("way over all posts", y.way(0, 4), 4);
        dueHand(y, "all posts", 6561, 1, 3, 2, 1, 0);
        // round the ring it would be more, but no post is passed twice
        LossyLanes z = net(4, l(0, 1, 1, 1, 1), l(1, 2, 1, 9, 1), l(2, 1, 1, 9, 1), l(1, 3, 1, 1, 1), l(2, 3, 1, 1, 9));
        C.due("way beside a ring", z.way(0, 3), 2);
        dueHand(z, "beside a ring", 1, 1, 0, 3);
        z.share(4, 1, 8, 8);
        C.due("doubt does not count", z.way(0, 3), 3);
        dueHand(z, "beside a ring", 9, 8, 0, 1, 4);
    }

    private static void bestWayOfSeveral() {
        LossyLanes x = net(4, l(0, 1, 1, 1, 2), l(1, 3, 1, 1, 2), l(0, 3, 1, 2, 8), l(0, 3, 1, 1, 4));
        C.due("the fewest lanes", x.way(0, 3), 1);
        dueHand(x, "then the least row", 1, 4, 2);
        LossyLanes y = net(4, l(2, 3, 1, 1, 1), l(1, 3, 1, 1, 1), l(0, 1, 1, 1, 1), l(0, 2, 1, 1, 1), l(1, 3, 1, 1, 1));
        C.due("two lanes", y.way(0, 3), 2);
        dueHand(y, "the least row", 1, 1, 2, 1);
        // equal as fractions, not as numbers
        LossyLanes z = net(3, l(0, 1, 1, 2, 4), l(0, 1, 1, 1, 2), l(1, 2, 1, 3, 9), l(1, 2, 1, 1, 3), l(0, 2, 1, 1, 7));
        C.due("equal shares", z.way(0, 2), 2);
        dueHand(z, "equal shares", 1, 6, 0, 2);
    }

    private static void noWay() {
        LossyLanes x = net(4, l(0, 1, 1, 1, 1), l(1, 3, 1, 1, 1), l(2, 3, 1, 1, 1));
        int[][] none = {{0, 2}, {1, 0}, {3, 0}, {3, 1}, {2, 1}, {0, 0}, {1, 1}, {3, 3}, {-1, 3}, {0, 4}, {4, 0},
            {0, -1}, {Integer.MIN_VALUE, 3}, {0, Integer.MAX_VALUE}, {Integer.MAX_VALUE, Integer.MAX_VALUE}, {32, 33}};
        for (int[] w : none) {
            C.due("way(0,3)", x.way(0, 3), 2);
            C.due("way(" + w[0] + "," + w[1] + ")", x.way(w[0], w[1]), NONE);
            dueNoHand(x, "no way");
        }
    }

    // Promise 10
    private static void firstRing() {
        LossyLanes x = net(5, l(1, 2, 0, 2, 3), l(2, 1, 1, 3, 2), l(0, 1, 1, 9, 1), l(2, 4, 1, 9, 1));
        C.due("gain 1 is not above 1", x.ring(), NONE);
        dueNoHand(x, "no ring");
        x.share(1, 8, 5, 0);
        C.due("ring", x.ring(), 2);
        dueHand(x, "ring", 16, 15, 0, 1);
        x.lane(2, 3, 1, 1, 1);
        x.lane(3, 1, 1, 9, 1);
        C.due("a better ring", x.ring(), 3);
        dueHand(x, "ring of three", 6, 1, 0, 4, 5);
        x.share(5, 1, 9, 8);
        C.due("doubt does not count", x.ring(), 2);
        x.share(1, 1, 9, 8);
        C.due("no ring any more", x.ring(), NONE);
        dueNoHand(x, "no ring any more");
        C.due("a ring leaves a way none", x.way(0, 4), 3);
        C.due("no ring", x.ring(), NONE);
        dueNoHand(x, "no ring after a way");
        // no lanes at all
        C.due("ring of a new object", new LossyLanes().ring(), NONE);
    }

    private static void firstRingOfSeveral() {
        // it begins at its least post, whatever its lanes' numbers
        LossyLanes x = net(5, l(3, 2, 1, 2, 1), l(2, 3, 1, 1, 1));
        C.due("ring from 2", x.ring(), 2);
        dueHand(x, "ring from 2", 2, 1, 1, 0);
        // as much gain in three lanes as in two
        LossyLanes y = net(5, l(1, 2, 1, 2, 1), l(2, 3, 1, 1, 1), l(3, 1, 1, 1, 1), l(3, 2, 1, 2, 1));
        C.due("the fewest lanes", y.ring(), 2);
        dueHand(y, "the fewest lanes", 2, 1, 1, 3);
        // the least row is not of the least post
        LossyLanes z = net(5, l(2, 3, 1, 2, 1), l(1, 2, 1, 2, 1), l(2, 1, 1, 1, 1), l(3, 2, 1, 1, 1), l(3, 2, 1, 1, 1));
        C.due("the least row", z.ring(), 2);
        dueHand(z, "the least row", 2, 1, 0, 3);
        // both ways round three posts
        LossyLanes w = net(5, l(1, 3, 1, 1, 1), l(3, 2, 1, 1, 1), l(2, 1, 1, 5, 4), l(1, 2, 1, 1, 2), l(2, 3, 1, 1, 2),
            l(3, 1, 1, 9, 1));
        C.due("count of rings", w.count(2), 5);
        C.due("gainful", w.count(3), 3);
        C.due("ring", w.ring(), 2);
        dueHand(w, "ring", 9, 1, 0, 5);
    }

    // Promise 11
    private static void rowAtHand() {
        LossyLanes x = net(4, l(2, 3, 1, 1, 1), l(1, 2, 1, 2, 3), l(0, 1, 1, 1, 1));
        C.due("row(0) of none", x.row(0), NONE);
        C.due("way", x.way(0, 3), 3);
        dueHand(x, "way", 2, 3, 2, 1, 0);
        for (int k : new int[] {-1, 3, 4, 10, Integer.MIN_VALUE, Integer.MAX_VALUE}) {
            C.due("row(" + k + ")", x.row(k), NONE);
        }
        // only way, ring and what takes the lanes change what is at hand
        x.room(1, 0);
        x.send(1, 1, 1);
        x.lane(0, 3, 1, 9, 1);
        x.most(2, false);
        x.more(1, 100, true);
        x.count(2);
        x.count(3);
        x.right();
        x.left(1, true);
        x.image(1);
        C.due("again of no image", x.again(2), false);
        dueHand(x, "way still", 2, 3, 2, 1, 0);
        C.due("a shorter way", x.way(1, 2), 1);
        dueHand(x, "a shorter way", 2, 3, 1);
    }

    // Promise 12
    private static void gainOfRow() {
        LossyLanes x = net(3, l(0, 1, 1, 6, 8), l(1, 2, 1, 6, 9));
        C.due("gain of none", x.gain(false), x.gain(true), 0, 0);
        C.due("way", x.way(0, 2), 2);
        C.due("gain", x.gain(false), x.gain(true), 1, 2);
        // GAIN is of the shares as they are
        C.due("share", x.share(1, 8, 9, 3), true);
        C.due("gain", x.gain(false), x.gain(true), 2, 3);
        C.due("way", x.way(2, 0), NONE);
        C.due("gain of none", x.gain(false), x.gain(true), 0, 0);
    }

    // Promise 13
    private static void amountsAreSent() {
        LossyLanes x = net(2, l(0, 1, 1, 1, 1), l(0, 1, 1, 1, 1));
        C.due("send 1000 / 9", x.send(0, 1000, 9), true);
        C.due("u", x.tell(0, 6), 1000);
        C.due("v", x.tell(0, 7), 9);
        C.due("u of the other", x.tell(1, 6), 0);
        C.due("send 6 / 8", x.send(0, 6, 8), true);
        C.due("u in least terms", x.tell(0, 6), 3);
        C.due("v in least terms", x.tell(0, 7), 4);
        int[][] wrong = {{0, -1, 1}, {0, 1001, 1}, {0, 1, 0}, {0, 1, 10}, {0, 1, -1}, {-1, 1, 1}, {2, 1, 1}};
        for (int[] w : wrong) {
            C.due("send(" + w[0] + "," + w[1] + "," + w[2] + ")", x.send(w[0], w[1], w[2]), false);
        }
        for (int far : FAR) {
            C.due("send far", x.send(far, 1, 1) || x.send(0, far, 1) || x.send(0, 1, far), false);
        }
        C.due("u stays", x.tell(0, 6), 3);
        C.due("v stays", x.tell(0, 7), 4);
        C.due("send 0 / 9", x.send(0, 0, 9), true);
        C.due("0 is 0 / 1: u", x.tell(0, 6), 0);
        C.due("0 is 0 / 1: v", x.tell(0, 7), 1);
    }

    // Promise 14
    private static void flowIsRight() {
        LossyLanes x = net(4, l(0, 1, 5, 1, 3), l(1, 2, 9, 1, 2), l(2, 3, 9, 1, 1));
        C.due("nothing sent", x.right(), true);
        x.send(0, 5, 1);
        C.due("some is left", x.right(), true);
        x.send(1, 5, 3);
        C.due("all is sent on", x.right(), true);
        x.send(2, 5, 6);
        C.due("all to the end", x.right(), true);
        x.send(2, 6, 7);
        C.due("a little too much", x.right(), false);
        x.send(2, 0, 1);
        x.send(1, 7, 4);
        C.due("too much from 1", x.right(), false);
        x.send(1, 0, 1);
        x.send(0, 46, 9);
        C.due("above its room", x.right(), false);
        x.send(0, 45, 9);
        C.due("just its room", x.right(), true);
        x.room(0, 4);
        C.due("less room", x.right(), false);
        x.send(0, 4, 1);
        x.send(1, 4, 3);
        C.due("right", x.right(), true);
        x.share(0, 1, 4, 0);
        C.due("a lesser share", x.right(), false);
        x.share(0, 1, 3, 8);
        C.due("doubt does not count", x.right(), true);
        LossyLanes y = net(4, l(1, 2, 5, 2, 1), l(2, 1, 9, 1, 2));
        y.send(0, 5, 1);
        C.due("out of nothing", y.right(), false);
        y.send(1, 9, 1);
        C.due("the ring brings too little", y.right(), false);
        y.send(0, 9, 2);
        C.due("the ring brings just enough", y.right(), true);
    }

    // Promise 15
    private static void leftAtPosts() {
        LossyLanes x = net(4, l(0, 1, 1, 2, 3), l(0, 3, 1, 1, 9), l(1, 2, 1, 5, 7), l(2, 3, 1, 1, 1), l(2, 1, 1, 1, 2));
        for (int post = 0; post < 4; post++) {
            dueLeft(x, post, 0, 1);
        }
        x.send(0, 7, 2);
        x.send(1, 1, 4);
        x.send(2, 7, 5);
        x.send(3, 3, 1);
        x.send(4, 1, 3);
        dueLeft(x, 0, 15, 4);
        dueLeft(x, 1, 11, 10);
        dueLeft(x, 2, -7, 3);
        dueLeft(x, 3, 109, 36);
        for (int post : new int[] {-1, 4, 5, Integer.MIN_VALUE, Integer.MAX_VALUE}) {
            dueLeft(x, post, 0, 0);
        }
        LossyLanes y = net(2, l(0, 1, 0, 9, 8));
        y.send(0, 1000, 7);
        dueLeft(y, 0, 1000, 7);
        dueLeft(y, 1, 1125, 7);
        dueLeft(y, 2, 0, 0);
        LossyLanes z = net(3);
        for (int i = 0; i < 10; i++) {
            z.lane(0, 1, 100, 9, 1);
            z.send(i, 1000, 1);
        }
        dueLeft(z, 0, 10000, 1);
        dueLeft(z, 1, 90000, 1);
    }

    // Promise 16
    private static void counts() {
        LossyLanes x = net(5, l(1, 2, 1, 1, 1), l(1, 2, 1, 2, 1), l(2, 1, 1, 1, 1), l(2, 1, 1, 1, 2), l(2, 3, 1, 9, 1),
            l(3, 1, 1, 1, 9), l(0, 1, 1, 9, 1), l(3, 4, 1, 9, 1));
        C.due("posts", x.count(0), 5);
        C.due("lanes", x.count(1), 8);
        C.due("rings", x.count(2), 6);
        C.due("gainful", x.count(3), 2);
        C.due("at hand", x.count(4), 0);
        C.due("way", x.way(0, 4), 4);
        C.due("at hand", x.count(4), 4);
        for (int what : new int[] {-1, 5, Integer.MIN_VALUE, Integer.MAX_VALUE}) {
            C.due("count(" + what + ")", x.count(what), NONE);
        }
        LossyLanes y = net(5, l(1, 2, 1, 1, 1), l(1, 2, 1, 1, 1), l(1, 2, 1, 1, 1), l(2, 3, 1, 1, 1), l(2, 3, 1, 1, 1),
            l(2, 3, 1, 1, 1), l(3, 1, 1, 1, 1), l(3, 1, 1, 1, 1), l(3, 1, 1, 1, 1), l(3, 1, 1, 9, 8));
        C.due("rings over all", y.count(2), 36);
        C.due("gainful over all", y.count(3), 9);
    }

    // Promises 17 and 18
    private static void imagesAndAgain() {
        LossyLanes x = net(4, l(0, 1, 5, 1, 2), l(1, 3, 6, 3, 4));
        x.share(1, 3, 4, 2);
        x.send(0, 4, 6);
        for (int k : new int[] {-1, 3, Integer.MIN_VALUE, Integer.MAX_VALUE}) {
            C.due("image(" + k + ")", x.image(k), false);
            C.due("again(" + k + ")", x.again(k), false);
        }
        C.due("again of no image", x.again(0), false);
        C.due("image(2)", x.image(2), true);
        C.due("again of another", x.again(1), false);
        x.posts(5);
        x.lane(3, 4, 1, 9, 9);
        C.due("image(0)", x.image(0), true);
        C.due("again(2)", x.again(2), true);
        dueImage(x);
        x.room(0, 50);
        x.share(1, 9, 9, 0);
        x.send(0, 1, 9);
        x.lane(0, 3, 1, 1, 1);
        C.due("again(2) once more", x.again(2), true);
        dueImage(x);
        C.due("image(1)", x.image(1), true);
        C.due("again(0)", x.again(0), true);
        C.due("posts", x.count(0), 5);
        C.due("lanes", x.count(1), 1);
        C.due("from", x.tell(0, 0), 3);
        C.due("image(2) is put anew", x.image(2), true);
        C.due("again(2)", x.again(2), true);
        C.due("posts", x.count(0), 5);
        C.due("again(1)", x.again(1), true);
        dueImage(x);
        C.due("way", x.way(0, 3), 2);
        C.due("an image leaves the row", x.image(0), true);
        dueHand(x, "row", 3, 8, 0, 1);
        C.due("again leaves it too", x.again(0), true);
        dueHand(x, "row still", 3, 8, 0, 1);
        C.due("another object has no images", new LossyLanes().again(0), false);
    }

    // Promise 18 with 9 to 12: all that is, the row at hand too, is as the image has it
    private static void rowAfterAgain() {
        LossyLanes x = net(4, l(0, 1, 0, 1, 2), l(1, 2, 0, 3, 1), l(2, 1, 0, 3, 5), l(2, 3, 0, 1, 1));
        C.due("image without a row", x.image(2), true);
        C.due("way", x.way(0, 3), 3);
        C.due("image with a way", x.image(0), true);
        C.due("ring", x.ring(), 2);
        C.due("image with a ring", x.image(1), true);
        C.due("again(0)", x.again(0), true);
        dueHand(x, "the way", 3, 2, 0, 1, 3);
        C.due("again(1)", x.again(1), true);
        dueHand(x, "the ring", 9, 5, 1, 2);
        C.due("no way", x.way(3, 0), NONE);
        dueNoHand(x, "none");
        C.due("again of no such image", x.again(3), false);
        dueNoHand(x, "none still");
        C.due("again(0)", x.again(0), true);
        dueHand(x, "the way, though none was at hand", 3, 2, 0, 1, 3);
        x.share(1, 5, 1, 0);
        dueHand(x, "by the shares as they are", 5, 2, 0, 1, 3);
        C.due("again(0)", x.again(0), true);
        dueHand(x, "by the shares of the image", 3, 2, 0, 1, 3);
        C.due("posts(2)", x.posts(2), true);
        dueNoHand(x, "without lanes");
        x.lane(0, 1, 0, 7, 1);
        C.due("way", x.way(0, 1), 1);
        C.due("again(1)", x.again(1), true);
        dueHand(x, "the ring, after other lanes", 9, 5, 1, 2);
        C.due("again(2)", x.again(2), true);
        dueNoHand(x, "none, as the image has none");
    }

    private static void dueImage(LossyLanes x) {
        C.due("posts", x.count(0), 4);
        C.due("lanes", x.count(1), 2);
        int[][] due = {{0, 1, 5, 1, 2, 0, 2, 3}, {1, 3, 6, 3, 4, 2, 0, 1}};
        for (int lane = 0; lane < 2; lane++) {
            for (int what = 0; what < 8; what++) {
                C.due("tell(" + lane + "," + what + ")", x.tell(lane, what), due[lane][what]);
            }
        }
        dueMost(x, 0, 15, 8);
        dueMost(x, 1, 5, 8);
        C.due("lane 2", x.tell(2, 0), NONE);
    }
}
