import java.util.Arrays;

/** Promises 1 to 18: a test for each sentence that names a bound, an edge or a call that is refused. */
public final class PromiseEdgesTest extends ByHand {
    private static final boolean[] BOTH = {false, true};

    // What a busy object has: posts 0 .. 3, lanes 0 .. 3, and a row of three lanes at hand.
    private static final int LAST_POST = 3;
    private static final int LAST_LANE = 3;
    private static final int LAST_OF_ROW = 2;

    public static void main(String[] args) {
        newHasTwoPosts();
        newHasNoLanes();
        newHasNoImages();
        postsTakeTheLanes();
        postsLeaveTheImages();
        postsOfAnotherNumber();
        laneIsWithoutDoubt();
        laneNumbersFollow();
        laneWhenThereAreTen();
        laneThatCannotBe();
        roomAtItsBounds();
        roomIsRefused();
        shareAtItsBounds();
        shareIsRefused();
        tellIsRefused();
        mostIsRefused();
        moreAtItsBounds();
        moreIsBelowZero();
        moreIsRefused();
        wayThatIsNone();
        wayOfNoSuchPosts();
        wayOfOnePost();
        ringThatIsNone();
        rowFromZeroOn();
        rowIsRefused();
        gainOfNone();
        sendAtItsBounds();
        sendIsRefused();
        rightOfNothing();
        leftAtEachPost();
        leftIsRefused();
        countsOfNothing();
        countsOfAFullNet();
        countsInAnyOrder();
        countIsRefused();
        questionsChangeNothing();
        imageOfEachNumber();
        imageIsAsItWas();
        imageIsMadeAnew();
        imageIsRefused();
        againOfAnEmptyImage();
        againOfAFullImage();
        againAndAgain();
        againIsRefused();
        C.end();
    }

    /** A call changes nothing but that no row is at hand any more. */
    private static void dueNoRowThen(String name, java.util.function.ToIntFunction<LossyLanes> call) {
        LossyLanes x = busy();
        long[] told = allTold(x);
        C.due(name, call.applyAsInt(x), NONE);
        dueNoHand(x, name);
        C.holds(name + " changes nothing that is told", Arrays.equals(told, allTold(x)));
        dueImagesOfBusy(x, name);
    }

    // Promise 1: "Two POSTS, no LANES; no images."
    private static void newHasTwoPosts() {
        LossyLanes x = new LossyLanes();
        C.due("count(0)", x.count(0), 2);
        dueLeft(x, 0, 0, 1);
        dueLeft(x, 1, 0, 1);
        dueLeft(x, 2, 0, 0);
        C.due("way(0,1)", x.way(0, 1), NONE);
    }

    private static void newHasNoLanes() {
        LossyLanes x = new LossyLanes();
        C.due("count(1)", x.count(1), 0);
        for (int lane = -1; lane <= 10; lane++) {
            dueNoLane(x, lane);
        }
        C.due("the first lane", x.lane(0, 1, 1, 1, 1), 0);
        dueNoLane(x, 1);
    }

    private static void dueNoLane(LossyLanes x, int lane) {
        for (int what = 0; what < 8; what++) {
            C.due("tell(" + lane + "," + what + ")", x.tell(lane, what), NONE);
        }
        C.due("room(" + lane + ")", x.room(lane, 1), false);
        C.due("share(" + lane + ")", x.share(lane, 1, 1, 0), false);
        C.due("send(" + lane + ")", x.send(lane, 1, 1), false);
        dueMore(x, lane, 1, 0, 0);
    }

    private static void newHasNoImages() {
        LossyLanes x = new LossyLanes();
        for (int k = 0; k <= 2; k++) {
            C.due("again(" + k + ")", x.again(k), false);
        }
        busy();
        C.due("another object's image is not this one's", x.again(0), false);
    }

    // Promise 2: "So many POSTS, no LANES: true; false for another number."
    private static void postsTakeTheLanes() {
        for (int n = 2; n <= 5; n++) {
            LossyLanes x = busy();
            C.due("posts(" + n + ")", x.posts(n), true);
            C.due("count(0)", x.count(0), n);
            C.due("count(1)", x.count(1), 0);
            C.due("count(2)", x.count(2), 0);
            dueNoHand(x, "posts(" + n + ")");
            dueNoLane(x, 0);
            dueMost(x, 0, 0, 1);
            for (int post = 0; post < n; post++) {
                dueLeft(x, post, 0, 1);
            }
            dueLeft(x, n, 0, 0);
        }
    }

    private static void postsLeaveTheImages() {
        LossyLanes x = busy();
        C.due("posts(2)", x.posts(2), true);
        dueImagesOfBusy(x, "posts(2)");
        C.due("posts of the image", x.count(0), LAST_POST + 1);
    }

    private static void postsOfAnotherNumber() {
        for (int n : outside(2, 5)) {
            dueRefused("posts(" + n + ")", x -> x.posts(n));
        }
    }

    // Promise 3: "A LANE without DOUBT: its number. NONE: there are 10, or it can't be."
    private static void laneIsWithoutDoubt() {
        LossyLanes x = net(2, l(0, 1, 9, 9, 9));
        dueLane(x, 0, 0, 1, 9, 9, 9, 0, 0, 1);
        x.share(0, 9, 9, 8);
        x.send(0, 1000, 9);
        x.posts(2);
        C.due("a lane in its place", x.lane(0, 1, 100, 1, 9), 0);
        dueLane(x, 0, 0, 1, 100, 1, 9, 0, 0, 1);
    }

    private static void laneNumbersFollow() {
        LossyLanes x = busy();
        C.due("after 0 .. 3", x.lane(0, 3, 0, 1, 1), LAST_LANE + 1);
        C.due("refused", x.lane(0, 0, 0, 1, 1), NONE);
        C.due("a refused one takes no number", x.lane(0, 3, 0, 1, 1), LAST_LANE + 2);
        x.again(0);
        C.due("after those of the image", x.lane(0, 3, 0, 1, 1), 3);
        x.posts(4);
        C.due("from 0 on", x.lane(0, 3, 0, 1, 1), 0);
    }

    private static void laneWhenThereAreTen() {
        LossyLanes x = net(3);
        for (int i = 0; i < 10; i++) {
            C.due("lane " + i, x.lane(i % 2, 2, i, 1 + i % 9, 9), i);
        }
        x.way(0, 2);
        long[] told = allTold(x);
        long[] hand = hand(x);
        C.due("an eleventh", x.lane(0, 2, 100, 9, 1), NONE);
        C.due("an eleventh that can't be", x.lane(2, 0, 101, 0, 10), NONE);
        C.holds("nothing is changed", Arrays.equals(told, allTold(x)));
        C.holds("the row is at hand", Arrays.equals(hand, hand(x)));
        x.posts(3);
        C.due("the first again", x.lane(0, 2, 100, 9, 1), 0);
    }

    private static void laneThatCannotBe() {
        for (int from : outside(0, LAST_POST - 1)) {
            dueIdle("lane from " + from, x -> x.lane(from, 1, 1, 1, 1), NONE);
        }
        for (int to : outside(1, LAST_POST)) {
            dueIdle("lane to " + to, x -> x.lane(1, to, 1, 1, 1), NONE);
        }
        for (int post = 0; post <= LAST_POST; post++) {
            int same = post;
            dueIdle("lane from " + same + " to itself", x -> x.lane(same, same, 1, 1, 1), NONE);
        }
        for (int room : outside(0, 100)) {
            dueIdle("lane of room " + room, x -> x.lane(0, 1, room, 1, 1), NONE);
        }
        for (int n : outside(1, 9)) {
            dueIdle("lane of p " + n, x -> x.lane(0, 1, 1, n, 1), NONE);
            dueIdle("lane of q " + n, x -> x.lane(0, 1, 1, 1, n), NONE);
            dueIdle("lane of p and q " + n, x -> x.lane(0, 1, 1, n, n), NONE);
        }
    }

    // Promise 4: "A LANE's ROOM from now on: true; false: there is none such, or another ROOM."
    private static void roomAtItsBounds() {
        for (int lane = 0; lane <= LAST_LANE; lane++) {
            LossyLanes x = busy();
            long[] hand = hand(x);
            for (int room : new int[] {0, 1, 99, 100, 100}) {
                C.due("room(" + lane + "," + room + ")", x.room(lane, room), true);
                C.due("its room", x.tell(lane, 2), room);
            }
            for (int other = 0; other <= LAST_LANE; other++) {
                C.due("room of " + other, x.tell(other, 2), other == lane ? 100 : 10 + 10 * other);
            }
            C.holds("the row is at hand", Arrays.equals(hand, hand(x)));
            dueImagesOfBusy(x, "room");
        }
    }

    private static void roomIsRefused() {
        for (int lane : outside(0, LAST_LANE)) {
            dueRefused("room of lane " + lane, x -> x.room(lane, 1));
        }
        for (int room : outside(0, 100)) {
            dueRefused("room " + room, x -> x.room(0, room));
            dueRefused("room " + room + " of the last lane", x -> x.room(LAST_LANE, room));
        }
    }

    // Promise 5: "A LANE's SHARE and DOUBT from now on: true; false: there is none such, or others."
    private static void shareAtItsBounds() {
        int[][] bounds = {{1, 1, 0}, {1, 1, 8}, {1, 9, 0}, {1, 9, 8}, {9, 1, 0}, {9, 1, 8}, {9, 9, 0}, {9, 9, 8}, {9, 9, 8}};
        for (int lane = 0; lane <= LAST_LANE; lane++) {
            LossyLanes x = busy();
            for (int[] b : bounds) {
                C.due("share of " + lane, x.share(lane, b[0], b[1], b[2]), true);
                C.due("p", x.tell(lane, 3), b[0]);
                C.due("q", x.tell(lane, 4), b[1]);
                C.due("doubt", x.tell(lane, 5), b[2]);
            }
            int[] p = {3, 5, 2, 1};
            for (int other = 0; other <= LAST_LANE; other++) {
                C.due("p of " + other, x.tell(other, 3), other == lane ? 9 : p[other]);
                C.due("doubt of " + other, x.tell(other, 5), other == lane ? 8 : other == 0 ? 2 : 0);
            }
            dueImagesOfBusy(x, "share");
        }
    }

    private static void shareIsRefused() {
        for (int lane : outside(0, LAST_LANE)) {
            dueRefused("share of lane " + lane, x -> x.share(lane, 1, 1, 0));
        }
        for (int n : outside(1, 9)) {
            dueRefused("share of p " + n, x -> x.share(0, n, 1, 0));
            dueRefused("share of q " + n, x -> x.share(0, 1, n, 0));
        }
        for (int doubt : outside(0, 8)) {
            dueRefused("share of doubt " + doubt, x -> x.share(0, 1, 1, doubt));
        }
    }

    // Promise 6: "NONE if there is none such, or for another what."
    private static void tellIsRefused() {
        for (int lane : outside(0, LAST_LANE)) {
            dueIdle("tell of lane " + lane, x -> x.tell(lane, 0), NONE);
            dueIdle("tell 7 of lane " + lane, x -> x.tell(lane, 7), NONE);
        }
        for (int what : outside(0, 7)) {
            dueIdle("tell " + what, x -> x.tell(0, what), NONE);
            dueIdle("tell " + what + " of the last lane", x -> x.tell(LAST_LANE, what), NONE);
            C.due("tell of a new object", new LossyLanes().tell(0, what), NONE);
        }
    }

    // Promise 7: "-1 for another which."
    private static void mostIsRefused() {
        for (int which : outside(0, 2)) {
            for (boolean lower : BOTH) {
                dueIdle("most of " + which, x -> x.most(which, lower), -1);
                C.due("most of a new object", new LossyLanes().most(which, lower), -1);
            }
        }
    }

    // Promise 8: "By how much MOST would be more if a LANE had another ROOM"
    private static void moreAtItsBounds() {
        LossyLanes x = net(2, l(0, 1, 50, 9, 1), l(0, 1, 100, 1, 9));
        dueMore(x, 0, 0, -450, 1);
        dueMore(x, 0, 49, -9, 1);
        dueMore(x, 0, 50, 0, 1);
        dueMore(x, 0, 51, 9, 1);
        dueMore(x, 0, 100, 450, 1);
        dueMore(x, 1, 0, -100, 9);
        dueMore(x, 1, 100, 0, 1);
        dueMost(x, 0, 4150, 9);
        C.due("its room", x.tell(0, 2), 50);
        // what one lane brings another may not take on
        LossyLanes y = net(3, l(0, 1, 10, 1, 1), l(1, 2, 10, 1, 1));
        dueMore(y, 0, 100, 0, 1);
        dueMore(y, 1, 100, 0, 1);
        dueMore(y, 0, 0, -10, 1);
    }

    // "(below 0: the upper one)"
    private static void moreIsBelowZero() {
        LossyLanes x = net(2, l(0, 1, 3, 7, 9));
        for (int room = 0; room < 3; room++) {
            C.holds("upper below 0", x.more(0, room, false) < 0);
            C.holds("lower above 0", x.more(0, room, true) > 0);
        }
        dueMore(x, 0, 0, -7, 3);
        dueMore(x, 0, 1, -14, 9);
        dueMore(x, 0, 2, -7, 9);
    }

    // "0 if there is none such (either): its lower one is 0, too."
    private static void moreIsRefused() {
        for (boolean lower : BOTH) {
            for (int lane : outside(0, LAST_LANE)) {
                dueIdle("more of lane " + lane, x -> x.more(lane, 1, lower), 0);
            }
            for (int room : outside(0, 100)) {
                dueIdle("more of room " + room, x -> x.more(0, room, lower), 0);
                dueIdle("more of room " + room + " of the last lane", x -> x.more(LAST_LANE, room, lower), 0);
            }
            dueIdle("more of neither", x -> x.more(-1, -1, lower), 0);
            C.due("more of a new object", new LossyLanes().more(0, 0, lower), 0);
        }
    }

    // Promise 9: "NONE: there is none, there are no such POSTS, or they are one. (At hand is none then.)"
    private static void wayThatIsNone() {
        for (int from = 1; from <= LAST_POST; from++) {
            int begin = from;
            dueNoRowThen("no way from " + begin + " to the source", x -> x.way(begin, 0));
            int to = LAST_POST - from;
            dueNoRowThen("no way from the end to " + to, x -> x.way(LAST_POST, to));
        }
        LossyLanes x = net(4, l(0, 1, 1, 1, 1), l(2, 3, 1, 1, 1));
        C.due("way(0,1)", x.way(0, 1), 1);
        C.due("no way over a gap", x.way(0, 3), NONE);
        dueNoHand(x, "no way over a gap");
        C.due("way of a new object", new LossyLanes().way(0, 1), NONE);
    }

    private static void wayOfNoSuchPosts() {
        for (int post : outside(0, LAST_POST)) {
            dueNoRowThen("way from " + post, x -> x.way(post, LAST_POST));
            dueNoRowThen("way to " + post, x -> x.way(0, post));
            dueNoRowThen("way from and to " + post, x -> x.way(post, post));
        }
    }

    private static void wayOfOnePost() {
        for (int post = 0; post <= LAST_POST; post++) {
            int same = post;
            dueNoRowThen("way from " + same + " to itself", x -> x.way(same, same));
        }
    }

    // Promise 10: "NONE: there is none. (At hand is none then.)"
    private static void ringThatIsNone() {
        LossyLanes x = busy();
        C.due("a ring", x.ring(), 2);
        dueHand(x, "a ring", 5, 3, 1, 2);
        x.share(2, 2, 5, 0);
        C.due("way", x.way(0, 3), 3);
        long[] told = allTold(x);
        C.due("its gain is just 1", x.ring(), NONE);
        dueNoHand(x, "no ring");
        C.holds("nothing that is told is changed", Arrays.equals(told, allTold(x)));
        dueImagesOfBusy(x, "no ring");
        LossyLanes y = net(3, l(0, 1, 1, 9, 1), l(1, 2, 1, 9, 1));
        C.due("way", y.way(0, 2), 2);
        C.due("no ring at all", y.ring(), NONE);
        dueNoHand(y, "no ring at all");
        C.due("ring of a new object", new LossyLanes().ring(), NONE);
    }

    // Promise 11: "LANE k of the row at hand, from 0 on. NONE: there is none such."
    private static void rowFromZeroOn() {
        LossyLanes x = busy();
        dueHand(x, "the way of a busy object", 15, 16, 0, 1, 3);
        C.due("way(0,1)", x.way(0, 1), 1);
        dueHand(x, "a way of one lane", 3, 4, 0);
        C.due("way(2,1)", x.way(2, 1), 1);
        dueHand(x, "a way of another lane", 2, 3, 2);
        LossyLanes y = net(5, l(3, 4, 1, 1, 1), l(2, 3, 1, 1, 1), l(1, 2, 1, 1, 1), l(0, 1, 1, 1, 1));
        C.due("way(0,4)", y.way(0, 4), 4);
        dueHand(y, "the longest row", 1, 1, 3, 2, 1, 0);
    }

    private static void rowIsRefused() {
        for (int k : outside(0, LAST_OF_ROW)) {
            dueIdle("row(" + k + ")", x -> x.row(k), NONE);
        }
        LossyLanes x = busy();
        x.way(0, 0);
        for (int k : outside(0, -1)) {
            C.due("row(" + k + ") of none", x.row(k), NONE);
            C.due("row(" + k + ") of a new object", new LossyLanes().row(k), NONE);
        }
    }

    // Promise 12: "0: none is at hand."
    private static void gainOfNone() {
        LossyLanes x = new LossyLanes();
        for (boolean lower : BOTH) {
            C.due("gain of a new object", x.gain(lower), 0);
        }
        x.lane(0, 1, 1, 9, 9);
        dueNoHand(x, "a lane is no row");
        C.due("way", x.way(0, 1), 1);
        dueHand(x, "a way", 1, 1, 0);
        C.due("ring", x.ring(), NONE);
        dueNoHand(x, "no ring");
        C.due("way", x.way(0, 1), 1);
        C.due("way back", x.way(1, 0), NONE);
        dueNoHand(x, "no way");
    }

    // Promise 13: "The told amount of a LANE is u / v: true; false: there is none such, or other numbers."
    private static void sendAtItsBounds() {
        int[][] bounds = {{0, 1}, {0, 9}, {1000, 1}, {1000, 9}, {1, 9}};
        for (int lane = 0; lane <= LAST_LANE; lane++) {
            LossyLanes x = busy();
            long[] hand = hand(x);
            for (int[] b : bounds) {
                C.due("send of " + lane, x.send(lane, b[0], b[1]), true);
                C.due("amount", x.tell(lane, 6), x.tell(lane, 7), b[0], b[0] == 0 ? 1 : b[1]);
            }
            int[] u = {9, 7, 0, 0};
            for (int other = 0; other <= LAST_LANE; other++) {
                C.due("u of " + other, x.tell(other, 6), other == lane ? 1 : u[other]);
            }
            C.holds("the row is at hand", Arrays.equals(hand, hand(x)));
            dueImagesOfBusy(x, "send");
        }
    }

    private static void sendIsRefused() {
        for (int lane : outside(0, LAST_LANE)) {
            dueRefused("send of lane " + lane, x -> x.send(lane, 1, 1));
        }
        for (int u : outside(0, 1000)) {
            dueRefused("send of u " + u, x -> x.send(0, u, 1));
            dueRefused("send of u " + u + " / 9", x -> x.send(LAST_LANE, u, 9));
        }
        for (int v : outside(1, 9)) {
            dueRefused("send of v " + v, x -> x.send(0, 1, v));
            dueRefused("send of 0 / " + v, x -> x.send(0, 0, v));
        }
        dueRefused("send of -1 / -1", x -> x.send(0, -1, -1));
    }

    // Promise 14: "Whether THE TOLD FLOW is RIGHT.": nothing sent is a flow
    private static void rightOfNothing() {
        for (int n = 2; n <= 5; n++) {
            C.due("no lanes", net(n).right(), true);
            LossyLanes x = net(n, l(0, n - 1, 0, 1, 1));
            C.due("nothing is sent", x.right(), true);
            x.send(0, 1, 9);
            C.due("no room for it", x.right(), false);
            x.send(0, 0, 9);
            C.due("nothing is sent any more", x.right(), true);
            x.send(0, 1, 9);
            x.posts(n);
            C.due("no lanes any more", x.right(), true);
        }
    }

    // Promise 15: "LEFT at a POST between, or (THE END) what arrives there, or (the SOURCE) what is sent there"
    private static void leftAtEachPost() {
        LossyLanes x = net(5, l(0, 1, 1, 1, 2), l(1, 2, 1, 1, 2), l(2, 3, 1, 1, 2), l(3, 4, 1, 1, 2), l(0, 4, 1, 1, 2));
        for (int lane = 0; lane < 5; lane++) {
            x.send(lane, 1 + lane, 1);
        }
        dueLeft(x, 0, 6, 1);
        dueLeft(x, 1, -3, 2);
        dueLeft(x, 2, -2, 1);
        dueLeft(x, 3, -5, 2);
        dueLeft(x, 4, 9, 2);
        C.due("it is summed though it is not right", x.right(), false);
    }

    // "0 if there is none such."
    private static void leftIsRefused() {
        for (int post : outside(0, LAST_POST)) {
            for (boolean lower : BOTH) {
                dueIdle("left at " + post, x -> x.left(post, lower), 0);
            }
        }
        for (int post : outside(0, 1)) {
            dueLeft(new LossyLanes(), post, 0, 0);
        }
    }

    // Promise 16: "How many: 0 POSTS, 1 LANES, 2 RINGS, 3 GAINFUL ones, 4 LANES of the row at hand (0 without)."
    private static void countsOfNothing() {
        int[] due = {2, 0, 0, 0, 0};
        for (int what = 0; what < due.length; what++) {
            C.due("count(" + what + ") of a new object", new LossyLanes().count(what), due[what]);
        }
        LossyLanes x = busy();
        C.due("a row of three", x.count(4), 3);
        x.way(3, 0);
        C.due("without", x.count(4), 0);
    }

    private static void countsOfAFullNet() {
        LossyLanes x = net(5);
        for (int i = 0; i < 5; i++) {
            x.lane(1, 3, 0, 1, 1);
            x.lane(3, 1, 0, 1, 1);
        }
        x.share(9, 9, 8, 0);
        C.due("posts", x.count(0), 5);
        C.due("lanes", x.count(1), 10);
        C.due("rings", x.count(2), 25);
        C.due("gainful ones", x.count(3), 5);
        C.due("no row by counting", x.count(4), 0);
        C.due("ring", x.ring(), 2);
        C.due("the row at hand", x.count(4), 2);
    }

    private static void countsInAnyOrder() {
        LossyLanes x = busy();
        C.due("gainful ones, after a way", x.count(3), 1);
        x.share(2, 2, 5, 0);
        C.due("gainful ones, after a share", x.count(3), 0);
        C.due("rings, after gainful ones", x.count(2), 1);
        x.lane(2, 1, 1, 1, 1);
        C.due("rings, after a lane", x.count(2), 2);
        C.due("gainful ones, after rings", x.count(3), 1);
        x.posts(4);
        C.due("gainful ones, after posts", x.count(3), 0);
        C.due("rings, after posts", x.count(2), 0);
    }

    // "NONE for another what."
    private static void countIsRefused() {
        for (int what : outside(0, 4)) {
            dueIdle("count(" + what + ")", x -> x.count(what), NONE);
            C.due("count(" + what + ") of a new object", new LossyLanes().count(what), NONE);
        }
    }

    // "Nothing is promised beyond the answers and state changes described above"
    private static void questionsChangeNothing() {
        dueIdle("tell", x -> x.tell(0, 6), 9);
        // the ring fills lane 1: of 50 that arrive at 2, 75/4 go back and 125/4 on to the end
        dueIdle("most", x -> x.most(0, true), 8);
        dueIdle("more", x -> x.more(0, 0, false), -45);
        dueIdle("row", x -> x.row(2), 3);
        dueIdle("gain", x -> x.gain(true), 16);
        dueIdle("right", x -> x.right() ? 1 : 0, 1);
        dueIdle("left", x -> x.left(0, true), 2);
        for (int what = 0; what <= 4; what++) {
            int[] due = {4, 4, 1, 1, 3};
            int asked = what;
            dueIdle("count(" + what + ")", x -> x.count(asked), due[what]);
        }
    }

    // Promise 17: "Image k (0 .. 2) is all that is told, as it is now: true; false for another k."
    private static void imageOfEachNumber() {
        LossyLanes x = new LossyLanes();
        for (int k = 0; k <= 2; k++) {
            C.due("posts", x.posts(3 + k), true);
            C.due("image(" + k + ")", x.image(k), true);
            for (int later = k + 1; later <= 2; later++) {
                C.due("no image " + later + " yet", x.again(later), false);
            }
        }
        for (int k = 2; k >= 0; k--) {
            C.due("again(" + k + ")", x.again(k), true);
            C.due("posts of image " + k, x.count(0), 3 + k);
        }
        for (int k = 0; k <= 2; k++) {
            C.due("again(" + k + ")", x.again(k), true);
            C.due("posts of image " + k, x.count(0), 3 + k);
        }
    }

    private static void imageIsAsItWas() {
        LossyLanes x = busy();
        long[] told = allTold(x);
        long[] hand = hand(x);
        C.due("image(2)", x.image(2), true);
        C.holds("an image changes nothing that is told", Arrays.equals(told, allTold(x)));
        C.holds("an image leaves the row at hand", Arrays.equals(hand, hand(x)));
        for (int lane = 0; lane <= LAST_LANE; lane++) {
            x.room(lane, 1);
            x.share(lane, 1, 9, 8);
            x.send(lane, 1000, 9);
        }
        x.lane(0, 3, 100, 9, 1);
        x.ring();
        C.due("again(2)", x.again(2), true);
        C.holds("what changed later is not in the image", Arrays.equals(told, allTold(x)));
        C.holds("nor is a later row", Arrays.equals(hand, hand(x)));
        C.due("again(0)", x.again(0), true);
        C.due("the lanes of another image", x.count(1), 3);
    }

    private static void imageIsMadeAnew() {
        LossyLanes x = net(2, l(0, 1, 1, 1, 1));
        x.image(1);
        x.room(0, 2);
        C.due("image(1) once more", x.image(1), true);
        x.room(0, 3);
        C.due("again(1)", x.again(1), true);
        C.due("the later one", x.tell(0, 2), 2);
        x.posts(5);
        C.due("image(1) without lanes", x.image(1), true);
        x.posts(3);
        x.lane(0, 1, 1, 1, 1);
        C.due("again(1)", x.again(1), true);
        C.due("posts", x.count(0), 5);
        C.due("lanes", x.count(1), 0);
    }

    private static void imageIsRefused() {
        for (int k : outside(0, 2)) {
            dueRefused("image(" + k + ")", x -> x.image(k));
            dueRefused("again(" + k + ") after it", x -> x.image(k) || x.again(k));
        }
    }

    // Promise 18: "All that is as image k has it: true; false if there is none such."
    private static void againOfAnEmptyImage() {
        LossyLanes x = new LossyLanes();
        C.due("image of a new object", x.image(0), true);
        x.posts(5);
        for (int i = 0; i < 10; i++) {
            x.lane(0, 1, 1, 1, 1);
        }
        C.due("again(0)", x.again(0), true);
        C.due("posts", x.count(0), 2);
        C.due("lanes", x.count(1), 0);
        dueNoLane(x, 0);
        dueNoHand(x, "a new object's image");
        C.due("the first lane", x.lane(0, 1, 7, 8, 9), 0);
        dueLane(x, 0, 0, 1, 7, 8, 9, 0, 0, 1);
        C.due("again(0)", x.again(0), true);
        C.due("no lane in the image", x.count(1), 0);
    }

    private static void againOfAFullImage() {
        LossyLanes x = net(5);
        for (int i = 0; i < 10; i++) {
            x.lane(i % 3, 4, 10 * i, 1 + i % 9, 9 - i % 9);
            x.share(i, 1 + i % 9, 9 - i % 9, i % 9);
            x.send(i, 1 + 9 * i, 9);
        }
        C.due("image of ten lanes", x.image(2), true);
        x.posts(2);
        x.lane(0, 1, 1, 1, 1);
        C.due("again(2)", x.again(2), true);
        C.due("posts", x.count(0), 5);
        C.due("lanes", x.count(1), 10);
        for (int i = 0; i < 10; i++) {
            dueLane(x, i, i % 3, 4, 10 * i, 1 + i % 9, 9 - i % 9, i % 9, 1 + 9 * i, 9);
        }
        C.due("no lane more", x.lane(0, 4, 1, 1, 1), NONE);
    }

    private static void againAndAgain() {
        LossyLanes x = busy();
        x.image(1);
        long[] told = allTold(x);
        for (int time = 0; time < 3; time++) {
            C.due("again(1)", x.again(1), true);
            C.holds("all that is told is as the image has it", Arrays.equals(told, allTold(x)));
            dueHand(x, "so is the row", 15, 16, 0, 1, 3);
            // what changes after again is not in the image
            x.room(0, 100);
            x.share(1, 1, 1, 1);
            x.send(2, 5, 9);
            x.posts(2 + time);
        }
        C.due("again(0)", x.again(0), true);
        C.due("lanes of the other image", x.count(1), 3);
        C.due("no third image", x.again(2), false);
    }

    private static void againIsRefused() {
        for (int k : outside(0, 2)) {
            dueRefused("again(" + k + ")", x -> x.again(k));
        }
        dueRefused("again of no image 1", x -> x.again(1));
        dueRefused("again of no image 2", x -> x.again(2));
    }
}
