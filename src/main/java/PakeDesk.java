import java.util.NoSuchElementException;

/**
 * Two ways by which one who knows a password and a server that holds a record of it come to a
 * common key over a line that anybody may read and alter.
 */
public final class PakeDesk {
    public static final int NONE = -1;

    private static final int USERS = 8;
    private static final int MOST_SESSIONS = 40;
    private static final int MOST_TICKS = 100;

    private static final int WORD_WAY = 0;
    private static final int SALT_WAY = 1;

    private static final int AWAITS_FIRST = 0;
    private static final int AWAITS_CONFIRMATION = 1;
    private static final int FINISHED = 2;
    private static final int FAILED = 3;
    private static final int EXPIRED = 4;

    private final User[] users;
    private final Session[] opened;
    private int openedCount;
    private int clock;

    public PakeDesk(int seed) {
        users = new User[USERS];
        for (int number = 0; number < USERS; number++) {
            users[number] = new User(number, seed);
        }
        opened = new Session[MOST_SESSIONS];
        openedCount = 0;
        clock = 0;
    }

    public boolean register(int user, int way, long password, long salt) {
        User found = findUser(user);
        if (found == null || !isWay(way)) {
            return false;
        }
        found.keepRecord(way, password, salt);
        return true;
    }

    public boolean forget(int user) {
        User found = findUser(user);
        if (found == null || found.way == NONE) {
            return false;
        }
        found.way = NONE;
        return true;
    }

    public int way(int user) {
        User found = findUser(user);
        return found == null ? NONE : found.way;
    }

    public long salt(int user) {
        User found = findUser(user);
        return found == null ? 0 : found.saltOrFake();
    }

    public int client(int user, int way, long password, long secret)
            throws IllegalArgumentException, IllegalStateException {
        User found = findUser(user);
        if (found == null || !isWay(way)) {
            throw new IllegalArgumentException("no such user or way");
        }
        if (openedCount >= MOST_SESSIONS) {
            throw new IllegalStateException("there are as many sessions as there may be");
        }
        return open(new Client(found, way, password, secret, clock));
    }

    public int server(int user, int way, long secret)
            throws IllegalArgumentException, IllegalStateException {
        User found = findUser(user);
        if (found == null || !isWay(way)) {
            throw new IllegalArgumentException("no such user or way");
        }
        if (openedCount >= MOST_SESSIONS) {
            throw new IllegalStateException("there are as many sessions as there may be");
        }
        if (found.isBlockedAt(clock)) {
            throw new IllegalStateException("the user is blocked");
        }
        return open(new Server(found, way, secret, clock));
    }

    public int receive(int session, long message)
            throws NoSuchElementException, IllegalStateException, IllegalArgumentException,
            UnsupportedOperationException {
        return deliver(session, message);
    }

    public int pass(int from, int session, long bits)
            throws NoSuchElementException, IllegalStateException, IllegalArgumentException,
            UnsupportedOperationException {
        return deliver(session, lastMessageOf(from) ^ bits);
    }

    public long message(int session) {
        return lastMessageOf(session);
    }

    public long key(int session) throws NoSuchElementException, IllegalStateException {
        Session found = findSession(session);
        if (found == null) {
            throw new NoSuchElementException("no such session");
        }
        if (found.state != FINISHED) {
            throw new IllegalStateException("the session is not finished");
        }
        return found.key;
    }

    public int state(int session) {
        Session found = findSession(session);
        return found == null ? NONE : found.stateAt(clock);
    }

    public boolean blocked(int user) {
        User found = findUser(user);
        return found != null && found.isBlockedAt(clock);
    }

    public int tick(int n) throws IllegalArgumentException {
        if (n < 0 || n > MOST_TICKS) {
            throw new IllegalArgumentException("so many ticks can't go by at once");
        }
        clock += n;
        return clock;
    }

    public int sessions() {
        return openedCount;
    }

    private static boolean isWay(int way) {
        return way == WORD_WAY || way == SALT_WAY;
    }

    private User findUser(int number) {
        return number < 0 || number >= USERS ? null : users[number];
    }

    private Session findSession(int number) {
        return number < 0 || number >= openedCount ? null : opened[number];
    }

    private long lastMessageOf(int number) {
        Session found = findSession(number);
        return found == null ? 0 : found.message;
    }

    /** The callers have seen that there is room. */
    private int open(Session session) {
        int number = openedCount;
        opened[number] = session;
        openedCount++;
        return number;
    }

    private int deliver(int number, long message) {
        Session session = findSession(number);
        if (session == null) {
            throw new NoSuchElementException("no such session");
        }
        int before = session.stateAt(clock);
        if (before == AWAITS_FIRST) {
            if (!session.takesFirst(message)) {
                throw new IllegalArgumentException("a first message that is not right");
            }
        } else if (before == AWAITS_CONFIRMATION) {
            if (!session.takesConfirmation(message, clock)) {
                throw new UnsupportedOperationException("a confirmation that is not right");
            }
        } else {
            throw new IllegalStateException("the session does not wait for a message");
        }
        return session.state;
    }

    /** Arithmetic mod P, of numbers 0 .. P - 1; exponents are 0 .. Q. */
    private static final class Numbers {
        static final long P = 2147483579L;
        static final long Q = 1073741789L;
        static final long G = 4;
        static final long M = 9;
        static final long N = 25;
        static final int EXPONENT_BITS = 30;

        static long times(long a, long b) {
            return a * b % P;
        }

        static long power(long base, long exponent) {
            long result = 1;
            for (int bit = EXPONENT_BITS - 1; bit >= 0; bit--) {
                result = result * result % P;
                if ((exponent >>> bit & 1) == 1) {
                    result = result * base % P;
                }
            }
            return result;
        }

        /** M and N are elements: their power Q is 1, so the power Q - w undoes the power w. */
        static long overPower(long e, long base, long w) {
            return times(e, power(base, Q - w));
        }

        static boolean isBetweenZeroAndP(long e) {
            return e >= 1 && e <= P - 1;
        }

        static boolean isElement(long e) {
            return isBetweenZeroAndP(e) && power(e, Q) == 1;
        }

        static long scalar(long d) {
            return (d >>> 1) % (Q - 1) + 1;
        }
    }

    /** Written out for each count of longs, so that no digest makes an array. */
    private static final class Digest {
        static final long START = 1469598103934665603L;
        static final long BYTE_FACTOR = 1099511628211L;
        static final long LAST_FACTOR = -7046029254386353131L;

        static long of(long kind, long a, long b) {
            return finish(absorb(absorb(absorb(START, kind), a), b));
        }

        static long of(long kind, long a, long b, long c) {
            return finish(absorb(absorb(absorb(absorb(START, kind), a), b), c));
        }

        static long of(long kind, long a, long b, long c, long d) {
            return finish(absorb(absorb(absorb(absorb(absorb(START, kind), a), b), c), d));
        }

        static long of(long kind, long a, long b, long c, long d, long e) {
            long h = absorb(absorb(absorb(START, kind), a), b);
            return finish(absorb(absorb(absorb(h, c), d), e));
        }

        static long absorb(long h, long value) {
            long next = h;
            for (int shift = 56; shift >= 0; shift -= 8) {
                next = (next ^ (value >>> shift & 255)) * BYTE_FACTOR;
            }
            return next;
        }

        static long finish(long h) {
            long next = h ^ (h >>> 32);
            next = next * LAST_FACTOR;
            return next ^ (next >>> 29);
        }
    }

    /** A user with its record, if it has one, and its failures. */
    private static final class User {
        static final int FAILURES_THAT_BLOCK = 3;
        static final int TICKS_OF_BLOCK = 30;

        final int number;
        final int seed;
        int way;
        long word;
        long salt;
        long verifier;
        int failures;
        int latestFailure;
        int secondLatestFailure;
        int thirdLatestFailure;

        User(int number, int seed) {
            this.number = number;
            this.seed = seed;
            this.way = NONE;
        }

        long wordOf(long password) {
            return Numbers.scalar(Digest.of(1, number, password));
        }

        long exponentOf(long password, long withSalt) {
            return Numbers.scalar(Digest.of(2, withSalt, number, password));
        }

        void keepRecord(int newWay, long password, long newSalt) {
            way = newWay;
            if (newWay == WORD_WAY) {
                word = wordOf(password);
            } else {
                salt = newSalt;
                verifier = Numbers.power(Numbers.G, exponentOf(password, newSalt));
            }
        }

        long wordOrFake() {
            return way == WORD_WAY ? word : Numbers.scalar(Digest.of(3, seed, number));
        }

        long saltOrFake() {
            return way == SALT_WAY ? salt : Digest.of(4, seed, number);
        }

        long verifierOrFake() {
            if (way == SALT_WAY) {
                return verifier;
            }
            return Numbers.power(Numbers.G, Numbers.scalar(Digest.of(5, seed, number)));
        }

        void addFailure(int clock) {
            thirdLatestFailure = secondLatestFailure;
            secondLatestFailure = latestFailure;
            latestFailure = clock;
            failures++;
        }

        boolean isBlockedAt(int clock) {
            return failures >= FAILURES_THAT_BLOCK && clock - thirdLatestFailure < TICKS_OF_BLOCK;
        }
    }

    /** One side of an exchange; x and y are the two first messages, as this side knows them. */
    private abstract static class Session {
        static final int TICKS_OF_LIFE = 20;

        final User user;
        final int way;
        final long secret;
        final int began;
        int state;
        long x;
        long y;
        long key;
        long confirmationOfClient;
        long confirmationOfServer;
        long message;

        Session(User user, int way, long secret, int began) {
            this.user = user;
            this.way = way;
            this.secret = Numbers.scalar(secret);
            this.began = began;
            this.state = AWAITS_FIRST;
        }

        final int stateAt(int clock) {
            boolean waits = state == AWAITS_FIRST || state == AWAITS_CONFIRMATION;
            return waits && clock - began >= TICKS_OF_LIFE ? EXPIRED : state;
        }

        final boolean takesFirst(long e) {
            boolean right = isRightFirst(e);
            if (right) {
                answerFirst(e);
            }
            state = right ? AWAITS_CONFIRMATION : FAILED;
            return right;
        }

        final boolean takesConfirmation(long e, int clock) {
            boolean right = e == awaitedConfirmation();
            state = right ? FINISHED : FAILED;
            endWith(right, clock);
            return right;
        }

        final boolean isRightFirst(long e) {
            if (way == SALT_WAY) {
                return Numbers.isBetweenZeroAndP(e);
            }
            return Numbers.isElement(e) && unmasked(e) != 1;
        }

        final long keyByWord(long unmasked, long word) {
            return Digest.of(6, user.number, x, y, Numbers.power(unmasked, secret), word);
        }

        final long keyBySalt(long common) {
            return Digest.of(8, user.number, x, y, common);
        }

        /** The number u of way 1. */
        final long blend() {
            return Numbers.scalar(Digest.of(7, x, y));
        }

        final void makeConfirmations() {
            confirmationOfClient = Digest.of(9, key, x, y);
            confirmationOfServer = Digest.of(10, key, confirmationOfClient);
        }

        /** T of way 0, of the other one's first message. */
        abstract long unmasked(long e);

        abstract void answerFirst(long e);

        abstract long awaitedConfirmation();

        abstract void endWith(boolean right, int clock);
    }

    private static final class Client extends Session {
        final long password;
        final long word;

        Client(User user, int way, long password, long secret, int began) {
            super(user, way, secret, began);
            this.password = password;
            this.word = user.wordOf(password);
            long bare = Numbers.power(Numbers.G, this.secret);
            this.x = way == SALT_WAY ? bare
                    : Numbers.times(bare, Numbers.power(Numbers.M, word));
            this.message = x;
        }

        @Override
        long unmasked(long e) {
            return Numbers.overPower(e, Numbers.N, word);
        }

        @Override
        void answerFirst(long e) {
            y = e;
            if (way == WORD_WAY) {
                key = keyByWord(unmasked(e), word);
            } else {
                // The salt is asked for now: the record may be another one than at the beginning.
                key = keyBySalt(common(user.exponentOf(password, user.saltOrFake()), blend()));
            }
            makeConfirmations();
            message = confirmationOfClient;
        }

        private long common(long exponent, long u) {
            long hidden = Numbers.times(3, Numbers.power(Numbers.G, exponent));
            long base = Math.floorMod(y - hidden, Numbers.P);
            return Numbers.power(base, (secret + u * exponent) % Numbers.Q);
        }

        @Override
        long awaitedConfirmation() {
            return confirmationOfServer;
        }

        @Override
        void endWith(boolean right, int clock) {
            // How a client ends is nothing to its user, and it has no more to say.
        }
    }

    private static final class Server extends Session {
        /** w for way 0, v for way 1, as the record had it at the beginning. */
        final long held;

        Server(User user, int way, long secret, int began) {
            super(user, way, secret, began);
            this.held = way == WORD_WAY ? user.wordOrFake() : user.verifierOrFake();
        }

        @Override
        long unmasked(long e) {
            return Numbers.overPower(e, Numbers.M, held);
        }

        @Override
        void answerFirst(long e) {
            x = e;
            long bare = Numbers.power(Numbers.G, secret);
            if (way == WORD_WAY) {
                y = Numbers.times(bare, Numbers.power(Numbers.N, held));
                key = keyByWord(unmasked(e), held);
            } else {
                y = (3 * held + bare) % Numbers.P;
                key = keyBySalt(common(blend()));
            }
            makeConfirmations();
            message = y;
        }

        private long common(long u) {
            return Numbers.power(Numbers.times(x, Numbers.power(held, u)), secret);
        }

        @Override
        long awaitedConfirmation() {
            return confirmationOfClient;
        }

        @Override
        void endWith(boolean right, int clock) {
            if (right) {
                message = confirmationOfServer;
                user.failures = 0;
            } else {
                user.addFailure(clock);
            }
        }
    }
}
