import java.util.Random;

/** Full nets with the widest numbers there are: nothing may wrap around. Compared with the Model. */
public final class WideNetsTest {
    private static final int NETS = 1500;

    public static void main(String[] args) {
        Checks checks = new Checks();
        Random random = new Random(7);
        for (int i = 0; i < NETS && !checks.failed(); i++) {
            compare(checks, random, "net " + i);
        }
        checks.end();
    }

    private static void compare(Checks checks, Random random, String name) {
        LossyLanes real = new LossyLanes();
        Model model = new Model();
        real.posts(5);
        model.posts(5);
        for (int tries = 0; model.count(1) < 10 && tries < 1000; tries++) {
            int from = random.nextInt(4);
            int to = 1 + random.nextInt(4);
            int room = 90 + random.nextInt(11);
            int p = 5 + random.nextInt(5);
            int q = 5 + random.nextInt(5);
            checks.due(name + ": lane", real.lane(from, to, room, p, q), model.lane(from, to, room, p, q));
        }
        for (int lane = 0; lane < 10; lane++) {
            int doubt = 8 - random.nextInt(2) * random.nextInt(9);
            real.share(lane, model.tell(lane, 3), model.tell(lane, 4), doubt);
            model.share(lane, model.tell(lane, 3), model.tell(lane, 4), doubt);
            int u = 990 + random.nextInt(11);
            real.send(lane, u, 9 - lane % 3);
            model.send(lane, u, 9 - lane % 3);
        }
        for (boolean lower : new boolean[] {false, true}) {
            for (int which = 0; which <= 2; which++) {
                checks.due(name + ": most " + which, real.most(which, lower), model.most(which, lower));
            }
            int lane = random.nextInt(10);
            int room = random.nextInt(101);
            checks.due(name + ": more", real.more(lane, room, lower), model.more(lane, room, lower));
            for (int post = 0; post < 5; post++) {
                checks.due(name + ": left " + post, real.left(post, lower), model.left(post, lower));
            }
        }
    }
}
