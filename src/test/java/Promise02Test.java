/** Promise 2: register. */
public final class Promise02Test {
    private static final Check CHECK = new Check();

    public static void main(String[] args) {
        everyUserAndWay();
        wrongUsersAndWaysChangeNothing();
        oneRecordInPlaceOfAnother();
        saltMeansNothingForWayZero();
        longsAreTakenWhole();
        CHECK.end();
    }

    private static void everyUserAndWay() {
        CHECK.sentence("Promise 2", "A user gets a record of a way");
        PakeDesk desk = new PakeDesk(1);
        for (int u = 0; u < 8; u++) {
            int user = u;
            CHECK.due(true, "register", () -> desk.register(user, user % 2, 10 + user, 20 + user));
            CHECK.due(user % 2, "way", () -> desk.way(user));
        }
        for (int user = 0; user < 8; user++) {
            expectHeld(desk, 1, user, user % 2, 10 + user, 20 + user);
        }
    }

    private static void wrongUsersAndWaysChangeNothing() {
        CHECK.sentence("Promise 2", "False if there is no such user or way.");
        PakeDesk desk = new PakeDesk(1);
        desk.register(0, 1, 5, 6);
        for (int wrong : new int[] {-1, 8, 9, 256, Integer.MIN_VALUE, Integer.MAX_VALUE}) {
            CHECK.due(false, "register user " + wrong, () -> desk.register(wrong, 0, 1, 1));
            CHECK.due(false, "register user " + wrong, () -> desk.register(wrong, 1, 1, 1));
        }
        for (int wrong : new int[] {-1, 2, 3, 256, Integer.MIN_VALUE, Integer.MAX_VALUE}) {
            CHECK.due(false, "register way " + wrong, () -> desk.register(0, wrong, 1, 1));
            CHECK.due(false, "register way " + wrong, () -> desk.register(1, wrong, 1, 1));
        }
        CHECK.due(-1, "way(1)", () -> desk.way(1));
        expectHeld(desk, 1, 0, 1, 5, 6);
    }

    private static void oneRecordInPlaceOfAnother() {
        CHECK.sentence("Promise 2", "A user gets a record of a way, in place of another one: true.");
        PakeDesk desk = new PakeDesk(-9);
        desk.register(4, 0, 11, 12);
        expectHeld(desk, -9, 4, 0, 11, 12);
        CHECK.due(true, "another password", () -> desk.register(4, 0, 13, 12));
        expectHeld(desk, -9, 4, 0, 13, 12);
        CHECK.due(true, "another way", () -> desk.register(4, 1, 13, 14));
        expectHeld(desk, -9, 4, 1, 13, 14);
        CHECK.due(true, "another salt", () -> desk.register(4, 1, 13, 15));
        expectHeld(desk, -9, 4, 1, 13, 15);
        CHECK.due(true, "back to way 0", () -> desk.register(4, 0, 16, 17));
        expectHeld(desk, -9, 4, 0, 16, 17);
    }

    private static void saltMeansNothingForWayZero() {
        CHECK.sentence("Promise 2", "(Salt means nothing for way 0.)");
        PakeDesk desk = new PakeDesk(3);
        desk.register(6, 0, 21, 1);
        desk.register(6, 0, 21, -77);
        CHECK.due(Sums.fakeSalt(3, 6), "salt(6)", () -> desk.salt(6));
        expectHeld(desk, 3, 6, 0, 21, 0);
    }

    private static void longsAreTakenWhole() {
        CHECK.sentence("Promise 2", "A user gets a record of a way");
        PakeDesk desk = new PakeDesk(3);
        long[] edges = {0, -1, Long.MIN_VALUE, Long.MAX_VALUE, 1L << 32};
        for (long edge : edges) {
            desk.register(1, 0, edge, 0);
            expectHeld(desk, 3, 1, 0, edge, 0);
            desk.register(1, 1, edge, ~edge);
            expectHeld(desk, 3, 1, 1, edge, ~edge);
        }
    }

    /** The record that a new server takes, seen by its first message, and the fake of the other way. */
    private static void expectHeld(PakeDesk desk, int seed, int user, int way, long password, long salt) {
        long word = way == 0 ? Sums.word(user, password) : Sums.fakeWord(seed, user);
        long verifier = way == 1 ? Sums.verifier(salt, user, password) : Sums.fakeVerifier(seed, user);
        int ofWord = Talk.serverAtConfirmation(desk, user, 0);
        int ofVerifier = Talk.serverAtConfirmation(desk, user, 1);
        CHECK.due(way, "way " + user, () -> desk.way(user));
        CHECK.due(way == 1 ? salt : Sums.fakeSalt(seed, user), "salt " + user, () -> desk.salt(user));
        CHECK.due(Sums.wordY(77, word), "Y of the word", () -> desk.message(ofWord));
        CHECK.due(Sums.saltY(77, verifier), "Y of the verifier", () -> desk.message(ofVerifier));
    }
}
