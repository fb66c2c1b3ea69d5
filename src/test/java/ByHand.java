import java.util.Arrays;
import java.util.function.Predicate;
import java.util.function.ToLongFunction;
import java.util.stream.IntStream;
import java.util.stream.LongStream;

/** What the tests that are worked by hand share: nets to begin with, and questions with what is due. */
abstract class ByHand {
    static final int NONE = LossyLanes.NONE;
    static final Checks C = new Checks();

    // Far off, and such as would be right again if they were cut to a byte or to 16 bits.
    private static final int[] FAR = {Integer.MIN_VALUE, Integer.MIN_VALUE + 1, Integer.MIN_VALUE + 2, -65535, -65534,
        -255, -254, 257, 258, 65537, 65538, Integer.MAX_VALUE - 1, Integer.MAX_VALUE};

    /** Numbers that are not from least to greatest: the next ones on both sides, and far ones. */
    static int[] outside(int least, int greatest) {
        IntStream next = IntStream.of(least - 1, greatest + 1);
        return IntStream.concat(next, Arrays.stream(FAR)).filter(n -> n < least || n > greatest).toArray();
    }

    static LossyLanes net(int posts, int[]... lanes) {
        LossyLanes x = new LossyLanes();
        C.due("posts(" + posts + ")", x.posts(posts), true);
        for (int i = 0; i < lanes.length; i++) {
            int[] l = lanes[i];
            C.due("lane " + i, x.lane(l[0], l[1], l[2], l[3], l[4]), i);
        }
        return x;
    }

    static int[] l(int from, int to, int room, int p, int q) {
        return new int[] {from, to, room, p, q};
    }

    static void dueMost(LossyLanes x, int which, long upper, long lower) {
        C.due("most(" + which + ")", x.most(which, false), x.most(which, true), upper, lower);
    }

    static void dueMore(LossyLanes x, int lane, int room, long upper, long lower) {
        C.due("more(" + lane + "," + room + ")", x.more(lane, room, false), x.more(lane, room, true), upper, lower);
    }

    static void dueLeft(LossyLanes x, int post, long upper, long lower) {
        C.due("left(" + post + ")", x.left(post, false), x.left(post, true), upper, lower);
    }

    static void dueLane(LossyLanes x, int lane, int... numbers) {
        for (int what = 0; what < numbers.length; what++) {
            C.due("tell(" + lane + "," + what + ")", x.tell(lane, what), numbers[what]);
        }
    }

    static void dueHand(LossyLanes x, String what, long upper, long lower, int... row) {
        C.due(what + ": gain", x.gain(false), x.gain(true), upper, lower);
        C.due(what + ": count(4)", x.count(4), row.length);
        for (int k = 0; k < row.length; k++) {
            C.due(what + ": row(" + k + ")", x.row(k), row[k]);
        }
        C.due(what + ": row past its end", x.row(row.length), NONE);
        C.due(what + ": row(-1)", x.row(-1), NONE);
    }

    static void dueNoHand(LossyLanes x, String what) {
        dueHand(x, what, 0, 0);
    }

    /** Every answer that is not about the row at hand. */
    static long[] allTold(LossyLanes x) {
        LongStream.Builder all = LongStream.builder();
        IntStream.range(0, 4).forEach(what -> all.add(x.count(what)));
        for (int lane = 0; lane <= x.count(1); lane++) {
            for (int what = 0; what < 8; what++) {
                all.add(x.tell(lane, what));
            }
        }
        for (boolean lower : new boolean[] {false, true}) {
            IntStream.range(0, 3).forEach(which -> all.add(x.most(which, lower)));
            IntStream.rangeClosed(0, x.count(0)).forEach(post -> all.add(x.left(post, lower)));
        }
        return all.add(x.right() ? 1 : 0).build().toArray();
    }

    static long[] hand(LossyLanes x) {
        return LongStream.of(x.count(4), x.row(0), x.row(1), x.row(2), x.row(3), x.gain(false), x.gain(true)).toArray();
    }

    /** Lanes, shares in doubt, amounts, a ring and a row at hand; image 0 is of before, 1 and 2 are none. */
    static LossyLanes busy() {
        LossyLanes x = net(4, l(0, 1, 10, 3, 4), l(1, 2, 20, 5, 2), l(2, 1, 30, 2, 3));
        x.send(1, 7, 3);
        x.ring();
        x.image(0);
        x.lane(2, 3, 40, 1, 2);
        x.share(0, 3, 4, 2);
        x.send(0, 9, 2);
        x.way(0, 3);
        return x;
    }

    /** A call on a busy object answers what is due and changes nothing: not what is, not the images. */
    static void dueIdle(String name, ToLongFunction<LossyLanes> call, long due) {
        LossyLanes x = busy();
        long[] told = allTold(x);
        long[] hand = hand(x);
        C.due(name, call.applyAsLong(x), due);
        C.holds(name + " changes nothing that is told", Arrays.equals(told, allTold(x)));
        C.holds(name + " leaves the row at hand", Arrays.equals(hand, hand(x)));
        dueImagesOfBusy(x, name);
    }

    static void dueRefused(String name, Predicate<LossyLanes> call) {
        dueIdle(name, x -> call.test(x) ? 1 : 0, 0);
    }

    static void dueImagesOfBusy(LossyLanes x, String name) {
        C.due(name + ": no image 1", x.again(1), false);
        C.due(name + ": no image 2", x.again(2), false);
        C.due(name + ": image 0", x.again(0), true);
        C.due(name + ": lanes of image 0", x.count(1), 3);
        dueLane(x, 0, 0, 1, 10, 3, 4, 0, 0, 1);
        dueLane(x, 1, 1, 2, 20, 5, 2, 0, 7, 3);
        dueLane(x, 2, 2, 1, 30, 2, 3, 0, 0, 1);
    }
}
