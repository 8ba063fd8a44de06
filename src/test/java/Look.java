import java.util.ArrayList;
import java.util.List;

/** All that can be seen of a desk, a line for each user and session. */
final class Look {
    private Look() {
    }

    static List<String> at(PakeDesk desk) {
        List<String> lines = new ArrayList<>();
        int count = desk.sessions();
        lines.add("clock " + desk.tick(0) + ", sessions " + count);
        for (int user = 0; user < 8; user++) {
            lines.add("user " + user + ": way " + desk.way(user) + ", salt " + desk.salt(user)
                    + ", blocked " + desk.blocked(user));
        }
        for (int s = 0; s < count; s++) {
            int session = s;
            lines.add("session " + session + ": state " + desk.state(session) + ", message " + desk.message(session)
                    + ", key " + Check.answer(() -> desk.key(session)));
        }
        return lines;
    }
}
