/** The document's beginning and Terms 1 to 4: a test for each sentence that names a bound or an edge. */
public final class TermsEdgesTest extends ByHand {
    private static final int LAST_CALL = 512;

    public static void main(String[] args) {
        lastCallOfAnObject();
        dearCallsUpToTheLast();
        postsAreCountedFromZero();
        twoPostsAtFirst();
        sourceAndEnd();
        tenLanesAtMost();
        laneLeadsToAnotherPost();
        noLaneIntoTheSource();
        noLaneFromTheEnd();
        otherLanesCanBe();
        roomFromZeroToAHundred();
        shareFromOneToNine();
        doubtFromZeroToEight();
        leastShareIsAtLeastZero();
        greatestShare();
        fractionsInLeastTerms();
        lowerNumberAboveZero();
        zeroIsZeroByOne();
        amountUpToTheRoom();
        amountsAreFractions();
        noMoreIsSentOnThanArrives();
        leastBitTooMuch();
        lanesOfAPostAreSummed();
        sourceNeedsNoArrivals();
        mostOfNothing();
        mostOfAFullNet();
        mostByRings();
        sureAndHopedOfAllLanes();
        wayPassesNoPostTwice();
        bestWayByGain();
        bestWayByLanes();
        bestWayByRow();
        ringPassesNoPostTwice();
        ringBeginsAtItsLeastPost();
        noRingOverSourceOrEnd();
        gainfulIsAboveOne();
        firstRingByGain();
        firstRingByLanes();
        firstRingByRow();
        amountBounds();
        amountIsZeroAtFirst();
        leftMayBeBelowZero();
        leftOfTheWidestNumbers();
        C.end();
    }

    // "An object is used for at most 512 calls after it has been made": the last one is as good as the first
    private static void lastCallOfAnObject() {
        LossyLanes x = new LossyLanes();
        x.posts(3);
        x.lane(0, 1, 100, 9, 1);
        x.lane(1, 2, 100, 9, 1);
        x.way(0, 2);
        x.image(2);
        x.room(1, 7);
        for (int call = 7; call <= LAST_CALL - 4; call++) {
            C.due("call " + call + ": send", x.send(0, call, 1), true);
        }
        C.due("call 509: tell", x.tell(0, 6), LAST_CALL - 4);
        C.due("call 510: most", x.most(0, false), 63);
        C.due("call 511: again", x.again(2), true);
        C.due("call 512: gain", x.gain(false), 81);
    }

    private static void dearCallsUpToTheLast() {
        LossyLanes x = full(5, l(0, 1, 100, 7, 8), l(1, 2, 100, 8, 9), l(2, 3, 100, 9, 7), l(3, 1, 100, 1, 1), l(3, 4, 100, 1, 1));
        for (int call = 13; call <= LAST_CALL - 4; call += 5) {
            C.due("call " + call + ": most", x.most(0, false), 200);
            // 175/2 from the source and 225/2 from the ring fill the lanes from 1: 1625/14 arrive
            C.due("call " + (call + 1) + ": more", x.more(0, 0, false), -1175);
            C.due("call " + (call + 2) + ": way", x.way(0, 4), 4);
            C.due("call " + (call + 3) + ": ring", x.ring(), 3);
            C.due("call " + (call + 4) + ": count", x.count(2), 8);
        }
    }

    /** Each of five lanes twice: ten lanes. */
    private static LossyLanes full(int posts, int[]... five) {
        LossyLanes x = net(posts, five);
        for (int[] f : five) {
            x.lane(f[0], f[1], f[2], f[3], f[4]);
        }
        C.due("ten lanes", x.count(1), 10);
        return x;
    }

    // "POSTS are 0 .. n - 1, n 2 .. 5"
    private static void postsAreCountedFromZero() {
        for (int n = 2; n <= 5; n++) {
            LossyLanes x = net(n);
            for (int post = -1; post <= n; post++) {
                boolean is = post >= 0 && post < n;
                C.due("n " + n + ": post " + post, x.left(post, true), is ? 1 : 0);
                x.way(post, 0);
            }
            C.due("n " + n + ": its last post", x.lane(0, n - 1, 1, 1, 1), 0);
            C.due("n " + n + ": a post too many", x.lane(0, n, 1, 1, 1), NONE);
            C.due("n " + n + ": way to its last post", x.way(0, n - 1), 1);
            C.due("n " + n + ": way to a post too many", x.way(0, n), NONE);
        }
    }

    // "(2 at first)"
    private static void twoPostsAtFirst() {
        LossyLanes x = new LossyLanes();
        C.due("posts at first", x.count(0), 2);
        C.due("no post 2 at first", x.lane(0, 2, 1, 1, 1), NONE);
        C.due("post 1 at first", x.lane(0, 1, 1, 1, 1), 0);
        dueLeft(x, 1, 0, 1);
        dueLeft(x, 2, 0, 0);
    }

    // "0 is the SOURCE, n - 1 THE END, the others lie between"
    private static void sourceAndEnd() {
        for (int n = 2; n <= 5; n++) {
            LossyLanes x = net(n, l(0, n - 1, 4, 1, 3));
            x.send(0, 3, 2);
            dueMost(x, 0, 4, 3);
            dueLeft(x, 0, 3, 2);
            dueLeft(x, n - 1, 1, 2);
            for (int between = 1; between < n - 1; between++) {
                int into = x.lane(0, between, 4, 1, 2);
                int on = x.lane(between, n - 1, 4, 1, 1);
                x.send(into, 4, 1);
                x.send(on, 1, 1);
                dueLeft(x, between, 1, 1);
            }
        }
        C.due("2 of 3 is the end", net(3).lane(2, 1, 1, 1, 1), NONE);
        C.due("2 of 4 lies between", net(4).lane(2, 1, 1, 1, 1), 0);
    }

    // "LANES, at most 10, from 0 on"
    private static void tenLanesAtMost() {
        LossyLanes x = net(3);
        for (int i = 0; i < 9; i++) {
            C.due("lane from 0 on", x.lane(0, 1, i, 1, 1), i);
        }
        C.due("the tenth lane", x.lane(1, 2, 50, 8, 9), 9);
        C.due("an eleventh lane", x.lane(1, 2, 50, 9, 1), NONE);
        C.due("ten lanes", x.count(1), 10);
        dueLane(x, 0, 0, 1, 0, 1, 1, 0, 0, 1);
        dueLane(x, 9, 1, 2, 50, 8, 9, 0, 0, 1);
        C.due("no lane 10", x.tell(10, 0), NONE);
        C.due("the tenth lane is of a way", x.way(0, 2), 2);
        dueHand(x, "over the tenth lane", 8, 9, 0, 9);
        dueMost(x, 0, 32, 1);
        C.due("room of the tenth", x.room(9, 9), true);
        dueMost(x, 0, 8, 1);
        C.due("share of the tenth", x.share(9, 1, 1, 1), true);
        C.due("amount of the tenth", x.send(9, 1, 2), true);
        dueLane(x, 9, 1, 2, 9, 1, 1, 1, 1, 2);
    }

    // "lead from one POST to another one"
    private static void laneLeadsToAnotherPost() {
        for (int n = 2; n <= 5; n++) {
            LossyLanes x = net(n);
            for (int post = 0; post < n; post++) {
                C.due("n " + n + ": from " + post + " to itself", x.lane(post, post, 1, 1, 1), NONE);
            }
            C.due("n " + n + ": none was made", x.count(1), 0);
        }
    }

    // "none into the SOURCE"
    private static void noLaneIntoTheSource() {
        for (int n = 2; n <= 5; n++) {
            LossyLanes x = net(n);
            for (int from = 1; from < n; from++) {
                C.due("n " + n + ": from " + from + " into the source", x.lane(from, 0, 1, 1, 1), NONE);
            }
            C.due("n " + n + ": none was made", x.count(1), 0);
        }
    }

    // "none from THE END"
    private static void noLaneFromTheEnd() {
        for (int n = 2; n <= 5; n++) {
            LossyLanes x = net(n);
            for (int to = 0; to < n; to++) {
                C.due("n " + n + ": from the end to " + to, x.lane(n - 1, to, 1, 1, 1), NONE);
            }
            C.due("n " + n + ": none was made", x.count(1), 0);
        }
    }

    private static void otherLanesCanBe() {
        for (int n = 2; n <= 5; n++) {
            for (int from = 0; from < n - 1; from++) {
                LossyLanes x = net(n);
                int made = 0;
                for (int to = 1; to < n; to++) {
                    if (from != to) {
                        C.due("n " + n + ": from " + from + " to " + to, x.lane(from, to, 1, 1, 1), made);
                        made++;
                    }
                }
            }
        }
    }

    // "a LANE has ROOM, 0 .. 100"
    private static void roomFromZeroToAHundred() {
        LossyLanes x = net(2, l(0, 1, 0, 1, 1), l(0, 1, 100, 1, 1));
        dueMost(x, 0, 100, 1);
        C.due("no room -1", x.lane(0, 1, -1, 1, 1), NONE);
        C.due("no room 101", x.lane(0, 1, 101, 1, 1), NONE);
        C.due("room 100 from now on", x.room(0, 100), true);
        dueMost(x, 0, 200, 1);
        C.due("room 0 from now on", x.room(1, 0), true);
        dueMost(x, 0, 100, 1);
        C.due("room 101 from now on", x.room(1, 101), false);
        C.due("room -1 from now on", x.room(0, -1), false);
        dueMost(x, 0, 100, 1);
    }

    // "a SHARE p / q, p and q 1 .. 9"
    private static void shareFromOneToNine() {
        LossyLanes x = net(2, l(0, 1, 9, 1, 9), l(0, 1, 9, 9, 1), l(0, 1, 9, 1, 1), l(0, 1, 9, 9, 9));
        dueMost(x, 0, 100, 1);
        int[][] wrong = {{0, 1}, {1, 0}, {10, 1}, {1, 10}, {0, 0}, {10, 10}, {-1, 1}, {1, -1}, {-1, -1}};
        for (int[] w : wrong) {
            C.due("lane of share " + w[0] + "/" + w[1], x.lane(0, 1, 9, w[0], w[1]), NONE);
            C.due("share " + w[0] + "/" + w[1], x.share(0, w[0], w[1], 0), false);
        }
        dueMost(x, 0, 100, 1);
    }

    // "a DOUBT, 0 .. 8"
    private static void doubtFromZeroToEight() {
        LossyLanes x = net(2, l(0, 1, 9, 9, 9));
        for (int doubt = 0; doubt <= 8; doubt++) {
            C.due("doubt " + doubt, x.share(0, 9, 9, doubt), true);
            C.due("told doubt", x.tell(0, 5), doubt);
            dueMost(x, 0, 9, 1);
            dueMost(x, 1, 9 - doubt, 1);
            dueMost(x, 2, 9 + doubt, 1);
        }
        C.due("doubt 9", x.share(0, 9, 9, 9), false);
        C.due("doubt -1", x.share(0, 9, 9, -1), false);
        C.due("doubt stays", x.tell(0, 5), 8);
    }

    // "its SHARE may truly be from (p - DOUBT) / q, but at least 0"
    private static void leastShareIsAtLeastZero() {
        LossyLanes x = net(2, l(0, 1, 10, 4, 5), l(0, 1, 10, 1, 1));
        long[] sure = {18, 16, 14, 12, 10, 10, 10, 10, 10};
        for (int doubt = 0; doubt <= 8; doubt++) {
            x.share(0, 4, 5, doubt);
            dueMost(x, 1, sure[doubt], 1);
        }
        // a share of 0 on the only way
        LossyLanes y = net(3, l(0, 1, 10, 1, 1), l(1, 2, 10, 1, 1));
        y.share(1, 1, 1, 1);
        dueMost(y, 1, 0, 1);
        y.share(1, 1, 1, 8);
        dueMost(y, 1, 0, 1);
        y.share(1, 1, 1, 0);
        y.share(0, 1, 1, 8);
        dueMost(y, 1, 0, 1);
        // below 0 on both lanes of a ring would be above 1 again
        LossyLanes z = net(4, l(1, 2, 100, 1, 1), l(2, 1, 100, 1, 1), l(2, 3, 100, 1, 1));
        z.share(0, 1, 1, 8);
        z.share(1, 1, 1, 8);
        dueMost(z, 1, 0, 1);
    }

    // "to (p + DOUBT) / q"
    private static void greatestShare() {
        LossyLanes x = net(2, l(0, 1, 100, 9, 1));
        x.share(0, 9, 1, 8);
        dueMost(x, 2, 1700, 1);
        x.share(0, 1, 9, 8);
        dueMost(x, 2, 100, 1);
        x.share(0, 1, 9, 1);
        dueMost(x, 2, 200, 9);
        x.share(0, 9, 1, 0);
        dueMost(x, 2, 900, 1);
    }

    // "Fractions are told by two whole numbers, in least terms"
    private static void fractionsInLeastTerms() {
        LossyLanes x = net(3, l(0, 2, 5, 6, 8), l(0, 1, 4, 6, 9), l(1, 2, 100, 3, 6));
        dueMost(x, 0, 61, 12);
        dueMore(x, 0, 7, 3, 2);
        dueMore(x, 0, 3, -3, 2);
        C.due("way", x.way(0, 1), 1);
        C.due("gain of 6/9", x.gain(false), x.gain(true), 2, 3);
        C.due("way", x.way(1, 2), 1);
        C.due("gain of 3/6", x.gain(false), x.gain(true), 1, 2);
        C.due("send 100/8", x.send(0, 100, 8), true);
        C.due("told 100/8", x.tell(0, 6), x.tell(0, 7), 25, 2);
        dueLeft(x, 0, 25, 2);
        dueLeft(x, 2, 75, 8);
        x.share(0, 8, 4, 2);
        dueMost(x, 1, 53, 6);
        dueMost(x, 2, 83, 6);
    }

    // "the lower one above 0": what is below 0 has it in its upper number
    private static void lowerNumberAboveZero() {
        LossyLanes x = net(3, l(0, 1, 8, 1, 9), l(1, 2, 8, 1, 9));
        x.send(1, 8, 7);
        dueLeft(x, 1, -8, 7);
        dueMost(x, 0, 8, 81);
        dueMore(x, 0, 0, -8, 81);
        dueMore(x, 0, 1, -7, 81);
        dueMore(x, 0, 9, 1, 81);
    }

    // "(0 is 0 / 1)"
    private static void zeroIsZeroByOne() {
        LossyLanes x = net(3, l(0, 1, 8, 1, 9), l(1, 2, 0, 1, 7));
        for (int which = 0; which <= 2; which++) {
            dueMost(x, which, 0, 1);
        }
        dueMore(x, 0, 100, 0, 1);
        x.send(0, 0, 9);
        C.due("told 0/9", x.tell(0, 6), x.tell(0, 7), 0, 1);
        for (int post = 0; post <= 2; post++) {
            dueLeft(x, post, 0, 1);
        }
        x.send(0, 9, 8);
        x.send(1, 1, 8);
        dueLeft(x, 1, 0, 1);
    }

    // "so much is sent along each LANE, a fraction from 0 to its ROOM"
    private static void amountUpToTheRoom() {
        dueRight(100, 900, 9, true);
        dueRight(100, 901, 9, false);
        dueRight(100, 1000, 1, false);
        dueRight(99, 892, 9, false);
        dueRight(1, 8, 9, true);
        dueRight(1, 9, 9, true);
        dueRight(1, 10, 9, false);
        dueRight(0, 0, 9, true);
        dueRight(0, 1, 9, false);
        // each lane has its own room: the first and the last of ten
        for (int lane = 0; lane < 10; lane += 9) {
            LossyLanes x = net(2);
            for (int i = 0; i < 10; i++) {
                x.lane(0, 1, 1, 1, 1);
                x.send(i, 1, 1);
            }
            C.due("ten lanes, all just full", x.right(), true);
            x.send(lane, 9, 8);
            C.due("lane " + lane + " above its room", x.right(), false);
        }
    }

    private static void dueRight(int room, int u, int v, boolean due) {
        LossyLanes x = net(2, l(0, 1, room, 1, 1));
        C.due("send", x.send(0, u, v), true);
        C.due("room " + room + ", sent " + u + "/" + v, x.right(), due);
    }

    private static void amountsAreFractions() {
        dueMost(net(3, l(0, 1, 1, 1, 2), l(1, 2, 100, 1, 3)), 0, 1, 6);
        dueMost(net(5, l(0, 1, 1, 1, 9), l(1, 2, 1, 1, 9), l(2, 3, 1, 1, 9), l(3, 4, 1, 1, 9)), 0, 1, 6561);
        dueMost(net(3, l(0, 1, 100, 1, 7), l(1, 2, 14, 9, 1)), 0, 126, 1);
        dueMost(net(3, l(0, 1, 100, 1, 7), l(1, 2, 15, 9, 1)), 0, 900, 7);
    }

    // "at each POST between no more is sent on than arrives there (some may be left)"
    private static void noMoreIsSentOnThanArrives() {
        LossyLanes x = net(3, l(0, 1, 1, 8, 9), l(1, 2, 1, 1, 1));
        x.send(0, 1, 1);
        x.send(1, 8, 9);
        C.due("just what arrives", x.right(), true);
        x.send(1, 7, 8);
        C.due("a little is left", x.right(), true);
        x.send(1, 0, 1);
        C.due("all is left", x.right(), true);
        x.send(1, 9, 9);
        C.due("more than arrives", x.right(), false);
        for (int post = 1; post <= 3; post++) {
            LossyLanes y = net(5, l(0, 1, 9, 1, 1), l(1, 2, 9, 1, 1), l(2, 3, 9, 1, 1), l(3, 4, 9, 1, 1));
            for (int lane = 0; lane < 4; lane++) {
                y.send(lane, lane < post ? 7 : 8, 1);
            }
            C.due("more from post " + post, y.right(), false);
            y.send(post - 1, 8, 1);
            C.due("still more than arrives ahead", y.right(), post == 1);
        }
    }

    /** The amounts u / 7, u / 8, u / 9 and u / 5 by shares 1 / 7, 1 / 8, 1 / 9 and 1 / 5; 2 are sent on. */
    private static LossyLanes twoSentOn(int... u) {
        int[] q = {7, 8, 9, 5};
        LossyLanes x = net(3, l(0, 1, 9, 1, 7), l(0, 1, 9, 1, 8), l(0, 1, 9, 1, 9), l(0, 1, 9, 1, 5), l(1, 2, 9, 1, 1));
        for (int lane = 0; lane < q.length; lane++) {
            x.send(lane, u[lane], q[lane]);
        }
        x.send(4, 2, 1);
        return x;
    }

    // Two sums as near to each other as any two that differ can be
    private static void leastBitTooMuch() {
        LossyLanes less = twoSentOn(10, 23, 71, 14);
        dueLeft(less, 1, -1, 6350400);
        C.due("the least bit too much is sent on", less.right(), false);
        LossyLanes more = twoSentOn(39, 41, 10, 11);
        dueLeft(more, 1, 1, 6350400);
        C.due("the least bit is left", more.right(), true);
    }

    private static void lanesOfAPostAreSummed() {
        LossyLanes x = net(4, l(0, 1, 9, 1, 1), l(0, 1, 9, 1, 3), l(1, 2, 9, 1, 1), l(1, 3, 9, 1, 1));
        x.send(0, 1, 2);
        x.send(1, 1, 1);
        x.send(2, 1, 3);
        x.send(3, 1, 2);
        C.due("5/6 arrive and are sent on", x.right(), true);
        x.send(2, 3, 8);
        C.due("7/8 are sent on", x.right(), false);
        dueLeft(x, 1, -1, 24);
    }

    private static void sourceNeedsNoArrivals() {
        LossyLanes x = net(2, l(0, 1, 100, 1, 1), l(0, 1, 100, 9, 1));
        x.send(0, 100, 1);
        x.send(1, 100, 1);
        C.due("the source sends, the end keeps", x.right(), true);
        dueLeft(x, 0, 200, 1);
        dueLeft(x, 1, 1000, 1);
    }

    // "MOST: the greatest sum that arrives at THE END by any FLOW": nothing, where nothing can
    private static void mostOfNothing() {
        for (int n = 2; n <= 5; n++) {
            dueMost(net(n), 0, 0, 1);
        }
        dueMost(net(2, l(0, 1, 0, 9, 1)), 0, 0, 1);
        dueMost(net(3, l(0, 1, 100, 9, 1)), 0, 0, 1);
        dueMost(net(3, l(1, 2, 100, 9, 1)), 0, 0, 1);
        dueMost(net(4, l(0, 1, 100, 9, 1), l(2, 3, 100, 9, 1)), 0, 0, 1);
        dueMost(net(4, l(0, 1, 100, 9, 1), l(1, 2, 0, 9, 1), l(2, 3, 100, 9, 1)), 0, 0, 1);
    }

    private static void mostOfAFullNet() {
        int[] wide = l(0, 1, 100, 9, 1);
        LossyLanes x = full(2, wide, wide, wide, wide, wide);
        dueMost(x, 0, 9000, 1);
        for (int lane = 0; lane < 10; lane++) {
            x.share(lane, 9, 1, 8);
        }
        dueMost(x, 1, 1000, 1);
        dueMost(x, 2, 17000, 1);
        dueMore(x, 9, 0, -900, 1);
        // a share of each kind: 1/9 + 1/8 + .. + 1/2, and 1 twice
        LossyLanes y = net(2);
        for (int lane = 0; lane < 10; lane++) {
            y.lane(0, 1, 1, 1, Math.max(1, 9 - lane));
        }
        dueMost(y, 0, 9649, 2520);
    }

    private static void mostByRings() {
        // out of nothing, as much as the last lane takes
        dueMost(net(4, l(1, 2, 100, 9, 1), l(2, 1, 100, 9, 1), l(2, 3, 100, 9, 1)), 0, 900, 1);
        // just 1 round the ring makes nothing
        dueMost(net(4, l(1, 2, 100, 2, 3), l(2, 1, 100, 3, 2), l(2, 3, 100, 1, 1)), 0, 0, 1);
        // 64/63 round the ring: 100 go back, 800/9 come on and bring 6400/63
        dueMost(net(4, l(1, 2, 100, 8, 7), l(2, 1, 100, 8, 9), l(2, 3, 100, 1, 1)), 0, 100, 63);
        // a ring without room
        dueMost(net(4, l(1, 2, 100, 9, 1), l(2, 1, 0, 9, 1), l(2, 3, 100, 9, 1)), 0, 0, 1);
    }

    // "SURE and HOPED: MOST if all SHARES are the least, the greatest that they may be"
    private static void sureAndHopedOfAllLanes() {
        LossyLanes x = net(3, l(0, 1, 10, 3, 4), l(1, 2, 100, 2, 3));
        for (int which = 0; which <= 2; which++) {
            dueMost(x, which, 5, 1);
        }
        x.share(0, 3, 4, 1);
        x.share(1, 2, 3, 1);
        dueMost(x, 0, 5, 1);
        dueMost(x, 1, 5, 3);
        dueMost(x, 2, 10, 1);
        // a ring that makes more only as is hoped
        LossyLanes y = net(4, l(1, 2, 10, 1, 1), l(2, 1, 100, 1, 1), l(2, 3, 100, 1, 1));
        y.share(0, 1, 1, 1);
        y.share(1, 1, 1, 1);
        dueMost(y, 0, 0, 1);
        dueMost(y, 1, 0, 1);
        dueMost(y, 2, 15, 1);
    }

    // "a row of LANES, each from where the one ahead leads to, no POST twice"
    private static void wayPassesNoPostTwice() {
        LossyLanes x = net(5, l(0, 1, 1, 1, 1), l(1, 2, 1, 9, 1), l(2, 1, 1, 9, 1), l(1, 3, 1, 1, 1), l(3, 4, 1, 1, 1));
        C.due("way(0,4)", x.way(0, 4), 3);
        dueHand(x, "not round the ring", 1, 1, 0, 3, 4);
        C.due("way(0,1)", x.way(0, 1), 1);
        dueHand(x, "not past its last post", 1, 1, 0);
        C.due("way(1,3)", x.way(1, 3), 1);
        dueHand(x, "not past its first post", 1, 1, 3);
        C.due("way(2,4)", x.way(2, 4), 3);
        dueHand(x, "over the ring's other post", 9, 1, 2, 3, 4);
    }

    // "BEST WAY: that with the greatest GAIN"
    private static void bestWayByGain() {
        LossyLanes x = net(2, l(0, 1, 1, 7, 8), l(0, 1, 1, 8, 9));
        C.due("8/9 is above 7/8", x.way(0, 1), 1);
        dueHand(x, "8/9", 8, 9, 1);
        LossyLanes y = net(5, l(0, 4, 100, 9, 1), l(0, 1, 0, 9, 1), l(1, 2, 0, 9, 1), l(2, 3, 0, 9, 1), l(3, 4, 0, 1, 9));
        C.due("81 is above 9", y.way(0, 4), 4);
        dueHand(y, "81, though it has no room", 81, 1, 1, 2, 3, 4);
        y.share(4, 9, 1, 0);
        C.due("the greatest there is", y.way(0, 4), 4);
        dueHand(y, "9 * 9 * 9 * 9", 6561, 1, 1, 2, 3, 4);
        LossyLanes z = net(5, l(0, 1, 1, 1, 9), l(1, 2, 1, 1, 9), l(2, 3, 1, 1, 9), l(3, 4, 1, 1, 9));
        C.due("the least there is", z.way(0, 4), 4);
        dueHand(z, "1/9 * 1/9 * 1/9 * 1/9", 1, 6561, 0, 1, 2, 3);
        z.share(3, 1, 9, 8);
        C.due("doubt does not count", z.way(0, 4), 4);
        dueHand(z, "the same", 1, 6561, 0, 1, 2, 3);
    }

    // "of several with the fewest LANES"
    private static void bestWayByLanes() {
        LossyLanes x = net(5, l(0, 1, 1, 1, 1), l(1, 2, 1, 1, 1), l(2, 3, 1, 1, 1), l(3, 4, 1, 1, 1));
        C.due("four lanes", x.way(0, 4), 4);
        x.lane(1, 3, 1, 1, 1);
        C.due("three lanes", x.way(0, 4), 3);
        dueHand(x, "three lanes", 1, 1, 0, 4, 3);
        x.lane(0, 3, 1, 1, 1);
        C.due("two lanes", x.way(0, 4), 2);
        dueHand(x, "two lanes", 1, 1, 5, 3);
        x.lane(0, 4, 1, 9, 9);
        C.due("one lane", x.way(0, 4), 1);
        dueHand(x, "one lane", 1, 1, 6);
    }

    // "then that whose row of LANES is least"
    private static void bestWayByRow() {
        LossyLanes x = net(4, l(2, 3, 1, 1, 1), l(0, 2, 1, 1, 1), l(0, 1, 1, 1, 1), l(1, 3, 1, 1, 1), l(2, 3, 1, 1, 1));
        C.due("two lanes", x.way(0, 3), 2);
        dueHand(x, "1, 0 is the least", 1, 1, 1, 0);
        LossyLanes y = net(4, l(1, 3, 1, 1, 1), l(0, 1, 1, 2, 1), l(0, 2, 1, 1, 1), l(2, 3, 1, 2, 1), l(1, 3, 1, 1, 1));
        C.due("two lanes", y.way(0, 3), 2);
        dueHand(y, "1, 0 comes ahead of 2, 3", 2, 1, 1, 0);
        LossyLanes z = net(3, l(1, 2, 1, 4, 8), l(1, 2, 1, 1, 2), l(0, 1, 1, 3, 6), l(0, 1, 1, 2, 4));
        C.due("two lanes", z.way(0, 2), 2);
        dueHand(z, "2, 0 of four rows", 1, 4, 2, 0);
        LossyLanes w = net(4, l(0, 2, 1, 1, 1), l(1, 3, 1, 1, 1), l(0, 1, 1, 1, 1), l(2, 3, 1, 1, 1));
        C.due("two lanes", w.way(0, 3), 2);
        dueHand(w, "0, 3 comes ahead of 2, 1: the first lane decides", 1, 1, 0, 3);
    }

    // "A RING: a row of LANES that comes back to the POST where it begins, no other POST twice"
    private static void ringPassesNoPostTwice() {
        LossyLanes x = net(5, l(1, 2, 1, 9, 1), l(2, 1, 1, 9, 1), l(2, 3, 1, 9, 1), l(3, 2, 1, 9, 1));
        C.due("two rings that meet are no third", x.count(2), 2);
        C.due("gainful", x.count(3), 2);
        C.due("ring", x.ring(), 2);
        dueHand(x, "ring", 81, 1, 0, 1);
        x.lane(3, 1, 1, 9, 1);
        C.due("round all three", x.count(2), 3);
        C.due("ring", x.ring(), 3);
        dueHand(x, "ring of three", 729, 1, 0, 2, 4);
        x.lane(1, 3, 1, 9, 1);
        C.due("both ways round, and each two", x.count(2), 5);
        x.lane(1, 2, 1, 1, 1);
        C.due("another lane makes other rings", x.count(2), 7);
        C.due("a row that does not come back", net(3, l(0, 1, 1, 9, 1), l(1, 2, 1, 9, 1)).count(2), 0);
    }

    // "it begins at its least POST"
    private static void ringBeginsAtItsLeastPost() {
        LossyLanes x = net(5, l(3, 1, 1, 2, 1), l(2, 3, 1, 2, 1), l(1, 2, 1, 2, 1));
        C.due("ring", x.ring(), 3);
        dueHand(x, "from 1", 8, 1, 2, 1, 0);
        LossyLanes y = net(5, l(3, 2, 1, 2, 1), l(2, 3, 1, 2, 1));
        C.due("ring", y.ring(), 2);
        dueHand(y, "from 2", 4, 1, 1, 0);
        C.due("it is counted once", y.count(2), 1);
    }

    private static void noRingOverSourceOrEnd() {
        LossyLanes x = net(4, l(0, 1, 1, 9, 1), l(0, 2, 1, 9, 1), l(1, 3, 1, 9, 1), l(2, 3, 1, 9, 1), l(0, 3, 1, 9, 1), l(1, 2, 1, 9, 1));
        C.due("no ring", x.count(2), 0);
        C.due("none is gainful", x.count(3), 0);
        C.due("ring", x.ring(), NONE);
    }

    // "It is GAINFUL if its GAIN is above 1"
    private static void gainfulIsAboveOne() {
        LossyLanes x = net(4, l(1, 2, 0, 8, 9), l(2, 1, 0, 7, 8));
        dueRing(x, NONE, 1, 0);
        x.share(1, 9, 8, 0);
        dueRing(x, NONE, 1, 0);
        x.share(1, 8, 7, 0);
        dueRing(x, 2, 1, 1);
        x.share(1, 9, 8, 8);
        dueRing(x, NONE, 1, 0);
    }

    private static void dueRing(LossyLanes x, int lanes, int rings, int gainful) {
        C.due("rings", x.count(2), rings);
        C.due("gainful rings", x.count(3), gainful);
        C.due("ring", x.ring(), lanes);
        C.due("at hand", x.count(4), lanes == NONE ? 0 : lanes);
    }

    // "FIRST RING: of those that are GAINFUL that with the greatest GAIN"
    private static void firstRingByGain() {
        LossyLanes x = net(4, l(1, 2, 1, 9, 8), l(2, 1, 1, 1, 1), l(2, 1, 1, 8, 7), l(2, 1, 1, 9, 8));
        C.due("ring", x.ring(), 2);
        dueHand(x, "9/8 * 8/7", 9, 7, 0, 2);
        LossyLanes y = net(5, l(1, 2, 1, 3, 1), l(2, 1, 1, 1, 1), l(2, 3, 1, 2, 1), l(3, 1, 1, 5, 9));
        C.due("10/3 is above 3", y.ring(), 3);
        dueHand(y, "10/3", 10, 3, 0, 2, 3);
        y.share(3, 4, 9, 0);
        C.due("3 is above 8/3", y.ring(), 2);
        dueHand(y, "3", 3, 1, 0, 1);
        // all ten lanes, the last ring the best
        LossyLanes z = net(4);
        for (int i = 0; i < 5; i++) {
            z.lane(1, 2, 1, 5 + i, 5);
            z.lane(2, 1, 1, 5 + i, 5);
        }
        C.due("rings", z.count(2), 25);
        C.due("gainful rings", z.count(3), 24);
        C.due("ring", z.ring(), 2);
        dueHand(z, "9/5 * 9/5", 81, 25, 8, 9);
    }

    // "of several with the fewest LANES"
    private static void firstRingByLanes() {
        LossyLanes x = net(5, l(1, 2, 1, 2, 1), l(2, 3, 1, 1, 1), l(3, 1, 1, 1, 1), l(3, 2, 1, 2, 1));
        C.due("ring", x.ring(), 2);
        dueHand(x, "two lanes, though from a greater post", 2, 1, 1, 3);
    }

    // "then that whose row is least"
    private static void firstRingByRow() {
        LossyLanes x = net(5, l(2, 3, 1, 2, 1), l(1, 2, 1, 2, 1), l(2, 1, 1, 1, 1), l(3, 2, 1, 1, 1), l(3, 2, 1, 1, 1));
        C.due("ring", x.ring(), 2);
        dueHand(x, "0, 3 of three rows, though from a greater post", 2, 1, 0, 3);
        LossyLanes y = net(4, l(2, 1, 1, 4, 2), l(2, 1, 1, 2, 1), l(1, 2, 1, 3, 3), l(1, 2, 1, 1, 1));
        C.due("ring", y.ring(), 2);
        dueHand(y, "2, 0 of four rows", 2, 1, 2, 0);
    }

    // "of each LANE an amount, a fraction u / v, u 0 .. 1000, v 1 .. 9"
    private static void amountBounds() {
        int[][] right = {{0, 1}, {0, 9}, {1000, 1}, {1000, 9}, {1, 1}, {1, 9}, {999, 7}};
        int[][] told = {{0, 1}, {0, 1}, {1000, 1}, {1000, 9}, {1, 1}, {1, 9}, {999, 7}};
        LossyLanes x = net(2, l(0, 1, 0, 1, 1));
        for (int i = 0; i < right.length; i++) {
            C.due("send " + right[i][0] + "/" + right[i][1], x.send(0, right[i][0], right[i][1]), true);
            C.due("told", x.tell(0, 6), x.tell(0, 7), told[i][0], told[i][1]);
        }
        int[][] wrong = {{-1, 1}, {1001, 1}, {1, 0}, {1, 10}, {0, 0}, {-1, -1}, {1001, 10}};
        for (int[] w : wrong) {
            C.due("send " + w[0] + "/" + w[1], x.send(0, w[0], w[1]), false);
            C.due("told still", x.tell(0, 6), x.tell(0, 7), 999, 7);
        }
    }

    // "(0 at first)"
    private static void amountIsZeroAtFirst() {
        LossyLanes x = net(2, l(0, 1, 5, 1, 1));
        C.due("at first", x.tell(0, 6), x.tell(0, 7), 0, 1);
        dueLeft(x, 0, 0, 1);
        x.send(0, 5, 2);
        x.lane(0, 1, 5, 1, 1);
        C.due("a lane after it", x.tell(1, 6), x.tell(1, 7), 0, 1);
        dueLeft(x, 0, 5, 2);
    }

    // "LEFT at a POST between: what arrives there less what is sent on (below 0, if more is)"
    private static void leftMayBeBelowZero() {
        LossyLanes x = net(3, l(0, 1, 5, 1, 9), l(1, 2, 5, 1, 1));
        x.send(0, 1, 1);
        dueLeft(x, 1, 1, 9);
        x.send(1, 1, 9);
        dueLeft(x, 1, 0, 1);
        x.send(1, 1, 8);
        dueLeft(x, 1, -1, 72);
        x.send(0, 0, 1);
        x.send(1, 1000, 9);
        dueLeft(x, 1, -1000, 9);
    }

    private static void leftOfTheWidestNumbers() {
        LossyLanes x = net(3);
        for (int i = 0; i < 10; i++) {
            x.lane(0, 1, 100, 9, 1);
            x.send(i, 1000, 1);
        }
        dueLeft(x, 0, 10000, 1);
        dueLeft(x, 1, 90000, 1);
        LossyLanes y = net(3);
        for (int i = 0; i < 10; i++) {
            y.lane(1, 2, 100, 9, 1);
            y.send(i, 1000, 1);
        }
        dueLeft(y, 1, -10000, 1);
        dueLeft(y, 2, 90000, 1);
        // 1/49 + 1/64 + 1/81 + 1/25: the greatest lower number there is
        LossyLanes z = net(3, l(0, 1, 1, 1, 7), l(0, 1, 1, 1, 8), l(0, 1, 1, 1, 9), l(0, 1, 1, 1, 5));
        z.send(0, 1, 7);
        z.send(1, 1, 8);
        z.send(2, 1, 9);
        z.send(3, 1, 5);
        dueLeft(z, 1, 561241, 6350400);
        dueLeft(z, 0, 1459, 2520);
    }
}
