import java.util.ArrayList;
import java.util.HashMap;
import java.util.List;
import java.util.Map;
import java.util.NoSuchElementException;

/** A second reading of the document, written for plainness alone and with Sums' arithmetic. */
final class Model {
    private record Kept(int way, long password, long salt) {
    }

    private static final class One {
        boolean client;
        int way;
        int user;
        long secret;
        long password;
        Kept record;
        int began;
        int state;
        Long x;
        Long y;
        long key;
        Long message;
    }

    private final int seed;
    private final Map<Integer, Kept> records = new HashMap<>();
    private final Map<Integer, List<Integer>> failures = new HashMap<>();
    private final List<One> all = new ArrayList<>();
    private int clock = 0;

    Model(int seed) {
        this.seed = seed;
        for (int user = 0; user < 8; user++) {
            failures.put(user, new ArrayList<>());
        }
    }

    private static boolean there(int user) {
        return user >= 0 && user < 8;
    }

    private static boolean there(int user, int way) {
        return there(user) && (way == 0 || way == 1);
    }

    boolean register(int user, int way, long password, long salt) {
        if (there(user, way)) {
            records.put(user, new Kept(way, password, salt));
            return true;
        }
        return false;
    }

    boolean forget(int user) {
        return records.remove(user) != null;
    }

    int way(int user) {
        return records.containsKey(user) ? records.get(user).way() : -1;
    }

    long salt(int user) {
        if (!there(user)) {
            return 0;
        }
        return way(user) == 1 ? records.get(user).salt() : Sums.fakeSalt(seed, user);
    }

    private int begin(boolean client, int user, int way, long password, long secret) {
        One one = new One();
        one.client = client;
        one.user = user;
        one.way = way;
        one.password = password;
        one.secret = secret;
        one.record = way(user) == way ? records.get(user) : null;
        one.began = clock;
        if (client) {
            one.x = way == 0 ? Sums.wordX(secret, word(one)) : Sums.power(Sums.G, Sums.scalar(secret));
            one.message = one.x;
        }
        all.add(one);
        return all.size() - 1;
    }

    int client(int user, int way, long password, long secret) {
        if (!there(user, way)) {
            throw new IllegalArgumentException();
        }
        if (all.size() == 40) {
            throw new IllegalStateException();
        }
        return begin(true, user, way, password, secret);
    }

    int server(int user, int way, long secret) {
        if (!there(user, way)) {
            throw new IllegalArgumentException();
        }
        if (all.size() == 40 || blocked(user)) {
            throw new IllegalStateException();
        }
        return begin(false, user, way, 0, secret);
    }

    private long word(One one) {
        if (one.client) {
            return Sums.word(one.user, one.password);
        }
        return one.record == null ? Sums.fakeWord(seed, one.user) : Sums.word(one.user, one.record.password());
    }

    private long verifier(One one) {
        return one.record == null ? Sums.fakeVerifier(seed, one.user)
                : Sums.verifier(one.record.salt(), one.user, one.record.password());
    }

    private boolean right(One one, long e) {
        if (e < 1 || e > Sums.P - 1) {
            return false;
        }
        long mask = Sums.power(one.client ? Sums.N : Sums.M, word(one));
        return one.way == 1 || Sums.element(e) && Sums.over(e, mask) != 1;
    }

    private void first(One one, long e) {
        if (!right(one, e)) {
            one.state = 3;
            throw new IllegalArgumentException();
        }
        if (one.client) {
            one.y = e;
        } else {
            one.x = e;
            one.y = one.way == 0 ? Sums.wordY(one.secret, word(one)) : Sums.saltY(one.secret, verifier(one));
        }
        if (one.way == 0) {
            one.key = Sums.wordKey(one.user, one.x, one.y, e, one.client ? Sums.N : Sums.M, word(one), one.secret);
        } else if (one.client) {
            long exponent = Sums.exponent(salt(one.user), one.user, one.password);
            one.key = Sums.saltKeyOfClient(one.user, one.x, one.y, exponent, one.secret);
        } else {
            one.key = Sums.saltKeyOfServer(one.user, one.x, one.y, verifier(one), one.secret);
        }
        one.message = one.client ? Sums.confirmationOfClient(one.key, one.x, one.y) : one.y;
        one.state = 1;
    }

    private void second(One one, long e) {
        long c = Sums.confirmationOfClient(one.key, one.x, one.y);
        long d = Sums.confirmationOfServer(one.key, one.x, one.y);
        boolean right = e == (one.client ? d : c);
        one.state = right ? 2 : 3;
        if (!one.client && right) {
            one.message = d;
            failures.get(one.user).clear();
        }
        if (!one.client && !right) {
            failures.get(one.user).add(0, clock);
        }
        if (!right) {
            throw new UnsupportedOperationException();
        }
    }

    int receive(int session, long message) {
        switch (state(session)) {
            case -1 -> throw new NoSuchElementException();
            case 0 -> first(all.get(session), message);
            case 1 -> second(all.get(session), message);
            default -> throw new IllegalStateException();
        }
        return state(session);
    }

    int pass(int from, int session, long bits) {
        return receive(session, message(from) ^ bits);
    }

    long message(int session) {
        boolean none = session < 0 || session >= all.size() || all.get(session).message == null;
        return none ? 0 : all.get(session).message;
    }

    long key(int session) {
        switch (state(session)) {
            case -1 -> throw new NoSuchElementException();
            case 2 -> {
                return all.get(session).key;
            }
            default -> throw new IllegalStateException();
        }
    }

    int state(int session) {
        if (session < 0 || session >= all.size()) {
            return -1;
        }
        One one = all.get(session);
        return one.state < 2 && clock >= one.began + 20 ? 4 : one.state;
    }

    boolean blocked(int user) {
        List<Integer> times = failures.getOrDefault(user, List.of());
        return times.size() >= 3 && times.get(2) > clock - 30;
    }

    int tick(int n) {
        if (n < 0 || n > 100) {
            throw new IllegalArgumentException();
        }
        clock += n;
        return clock;
    }

    int sessions() {
        return all.size();
    }
}
