import java.util.ArrayList;
import java.util.Arrays;
import java.util.List;
import java.util.Map;
import java.util.Random;
import java.util.TreeMap;

/** Long runs of calls, the same on the class and on the model; the random source has a fixed seed. */
public final class RandomRunsTest {
    private static final int RUNS = 1000;
    /** An object has at most 512 calls: this leaves room for the last step and a look at all sessions. */
    private static final int CALLS = 512 - 3 * 40 - 7;
    private static final int[] ODD_INTS = {-1, 8, 2, 40, 101, Integer.MIN_VALUE, Integer.MAX_VALUE};
    private static final long[] ODD_LONGS = {0, 1, -1, 2, 4, Sums.P - 1, Sums.P, 1L << 32, Long.MIN_VALUE, Long.MAX_VALUE};

    private final Check check = new Check();
    /** The calls of the run, with what the class answered. */
    private final List<String> trail = new ArrayList<>();
    private final Map<String, Integer> kinds = new TreeMap<>();
    private final Random random = new Random(20261115);
    private PakeDesk desk;
    private Model model;
    private int run;
    private int busy;

    public static void main(String[] args) {
        RandomRunsTest test = new RandomRunsTest();
        for (int run = 0; run < RUNS; run++) {
            test.run(run);
        }
        test.expectAllKinds();
        test.check.end();
    }

    private void run(int number) {
        run = number;
        int seed = random.nextInt();
        desk = new PakeDesk(seed);
        model = new Model(seed);
        // Some runs keep to few users, so that failures come together.
        busy = 1 + random.nextInt(8);
        trail.clear();
        trail.add("new PakeDesk(" + seed + ")");
        while (trail.size() <= CALLS) {
            step();
        }
        lookAtAll();
    }

    private int user() {
        return random.nextInt(30) == 0 ? ODD_INTS[random.nextInt(ODD_INTS.length)] : random.nextInt(busy);
    }

    private int way() {
        return random.nextInt(30) == 0 ? ODD_INTS[random.nextInt(ODD_INTS.length)] : random.nextInt(2);
    }

    private int session() {
        int count = model.sessions();
        if (count == 0 || random.nextInt(30) == 0) {
            return ODD_INTS[random.nextInt(ODD_INTS.length)];
        }
        // The latest ones are those that still wait.
        return random.nextInt(3) == 0 ? random.nextInt(count) : Math.max(0, count - 1 - random.nextInt(4));
    }

    private long password() {
        return random.nextInt(4) == 0 ? ODD_LONGS[random.nextInt(ODD_LONGS.length)] : 7;
    }

    private long any() {
        return random.nextInt(4) == 0 ? ODD_LONGS[random.nextInt(ODD_LONGS.length)] : random.nextLong();
    }

    private long someMessage() {
        switch (random.nextInt(3)) {
            case 0:
                return any();
            case 1:
                return Math.floorMod(random.nextLong(), Sums.P);
            default:
                return Sums.power(Sums.G, random.nextInt(1000000));
        }
    }

    private void step() {
        int kind = random.nextInt(100);
        if (kind < 6) {
            int user = user();
            int way = way();
            long password = password();
            long salt = any();
            both("register", () -> desk.register(user, way, password, salt),
                    () -> model.register(user, way, password, salt), user, way, password, salt);
        } else if (kind < 8) {
            int user = user();
            both("forget", () -> desk.forget(user), () -> model.forget(user), user);
        } else if (kind < 20) {
            exchange();
        } else if (kind < 24) {
            begin(user(), way(), password(), random.nextBoolean());
        } else if (kind < 36) {
            int session = session();
            long message = someMessage();
            both("receive", () -> desk.receive(session, message), () -> model.receive(session, message),
                    session, message);
        } else if (kind < 76) {
            pass(session(), session(), random.nextInt(8) == 0 ? any() : 0);
        } else if (kind < 86) {
            int n = random.nextInt(12) == 0 ? random.nextInt(130) - 15 : random.nextInt(6);
            both("tick", () -> desk.tick(n), () -> model.tick(n), n);
        } else {
            look();
        }
    }

    private void look() {
        int user = user();
        int session = session();
        both("way", () -> desk.way(user), () -> model.way(user), user);
        both("salt", () -> desk.salt(user), () -> model.salt(user), user);
        both("blocked", () -> desk.blocked(user), () -> model.blocked(user), user);
        both("message", () -> desk.message(session), () -> model.message(session), session);
        both("state", () -> desk.state(session), () -> model.state(session), session);
        both("key", () -> desk.key(session), () -> model.key(session), session);
        both("sessions", () -> desk.sessions(), () -> model.sessions());
    }

    private void lookAtAll() {
        for (int s = 0; s < model.sessions(); s++) {
            int session = s;
            both("message", () -> desk.message(session), () -> model.message(session), session);
            both("state", () -> desk.state(session), () -> model.state(session), session);
            both("key", () -> desk.key(session), () -> model.key(session), session);
        }
    }

    private void begin(int user, int way, long password, boolean client) {
        long secret = any();
        if (client) {
            both("client", () -> desk.client(user, way, password, secret),
                    () -> model.client(user, way, password, secret), user, way, password, secret);
        } else {
            both("server", () -> desk.server(user, way, secret), () -> model.server(user, way, secret),
                    user, way, secret);
        }
    }

    private void pass(int from, int session, long bits) {
        both("pass", () -> desk.pass(from, session, bits), () -> model.pass(from, session, bits),
                from, session, bits);
    }

    /** A client and a server of one user, and some of the messages between them. */
    private void exchange() {
        int user = user();
        int way = way();
        begin(user, way, password(), true);
        begin(user, way, 0, false);
        int server = model.sessions() - 1;
        int client = server - 1;
        int length = random.nextInt(5);
        for (int i = 0; i < length; i++) {
            long bits = random.nextInt(12) == 0 ? 1L << random.nextInt(64) : 0;
            pass(i % 2 == 0 ? client : server, i % 2 == 0 ? server : client, bits);
        }
    }

    private void both(String name, Check.Call ofDesk, Check.Call ofModel, Object... arguments) {
        String want = Check.answer(ofModel);
        String got = Check.answer(ofDesk);
        String call = name + Arrays.toString(arguments).replace('[', '(').replace(']', ')');
        trail.add(call + " = " + got);
        check.same(want, "run " + run + ": " + call, got);
        if (!check.isClean()) {
            tellRunAndEnd();
        }
        boolean plain = want.startsWith("throws.") || want.length() < 3 || want.equals("true") || want.equals("false");
        kinds.merge(plain ? name + " " + want : name, 1, Integer::sum);
    }

    /** Behind a wrong answer the two go different ways: what follows would say nothing more. */
    private void tellRunAndEnd() {
        trail.forEach(System.out::println);
        check.end();
    }

    /** A run that never comes to an answer shows nothing about it. */
    private void expectAllKinds() {
        String[] wanted = {
            "register true", "register false", "forget true", "forget false", "way 0", "way 1", "way -1",
            "salt", "salt 0", "client throws.IllegalArgumentException", "client throws.IllegalStateException",
            "server throws.IllegalArgumentException", "server throws.IllegalStateException",
            "receive 1", "receive throws.NoSuchElementException", "receive throws.IllegalStateException",
            "receive throws.IllegalArgumentException", "receive throws.UnsupportedOperationException",
            "pass 1", "pass 2", "pass throws.NoSuchElementException", "pass throws.IllegalStateException",
            "pass throws.IllegalArgumentException", "pass throws.UnsupportedOperationException",
            "message", "message 0", "key", "key throws.NoSuchElementException", "key throws.IllegalStateException",
            "state -1", "state 0", "state 1", "state 2", "state 3", "state 4", "blocked true", "blocked false",
            "tick", "tick throws.IllegalArgumentException", "sessions 40",
        };
        for (String kind : wanted) {
            check.same(true, "runs with " + kind, kinds.getOrDefault(kind, 0) >= 20);
        }
    }
}
