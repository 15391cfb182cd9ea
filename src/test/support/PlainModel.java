import java.util.ArrayList;
import java.util.List;

/**
 * The document, told a second time and in another way, to compare the class with: all CALLS stand in
 * one list, counts are counted from it, and what would be is played through on a copy, hour by hour.
 */
final class PlainModel {
    record Made(int client, int face, int version, int hour, int outcome) {
    }

    record Lead(int face, int from, int to, int adds, int drops) {
    }

    static final class Issue {
        int has;
        int needs;
        int state;
        int began = -1;
        int end = -1;
        int putOff;
        Integer[] askedAt = new Integer[5];
        boolean[] answered = new boolean[5];

        Issue copy() {
            Issue i = new Issue();
            i.has = has;
            i.needs = needs;
            i.state = state;
            i.began = began;
            i.end = end;
            i.putOff = putOff;
            i.askedAt = askedAt.clone();
            i.answered = answered.clone();
            return i;
        }
    }

    static final class User {
        int owner;
        int face;
        int version;
        int uses;
    }

    private int now;
    private final List<List<Issue>> faces = new ArrayList<>();
    private final List<User> users = new ArrayList<>();
    private final List<Lead> leads = new ArrayList<>();
    private final List<Made> calls = new ArrayList<>();

    private PlainModel copy() {
        PlainModel m = new PlainModel();
        m.now = now;
        for (List<Issue> face : faces) {
            List<Issue> issues = new ArrayList<>();
            for (Issue i : face) {
                issues.add(i.copy());
            }
            m.faces.add(issues);
        }
        for (User u : users) {
            User w = new User();
            w.owner = u.owner;
            w.face = u.face;
            w.version = u.version;
            w.uses = u.uses;
            m.users.add(w);
        }
        m.leads.addAll(leads);
        m.calls.addAll(calls);
        return m;
    }

    private static void bound(boolean there) {
        if (!there) {
            throw new IndexOutOfBoundsException();
        }
    }

    private static void argument(boolean good) {
        if (!good) {
            throw new IllegalArgumentException();
        }
    }

    private static void state(boolean good) {
        if (!good) {
            throw new IllegalStateException();
        }
    }

    private boolean isFace(int face) {
        return face >= 0 && face < faces.size();
    }

    private Issue issue(int face, int version) {
        bound(isFace(face) && version >= 0 && version < faces.get(face).size());
        return faces.get(face).get(version);
    }

    private User user(int client) {
        bound(client >= 0 && client < users.size());
        return users.get(client);
    }

    private static boolean isSet(int fields) {
        return fields >= 0 && fields < 256;
    }

    private static boolean contains(int all, int part) {
        for (int k = 0; k < 32; k++) {
            if ((part >>> k & 1) == 1 && (all >>> k & 1) == 0) {
                return false;
            }
        }
        return true;
    }

    private static boolean fits(int fields, int has, int needs) {
        return contains(fields, needs) && contains(has, fields);
    }

    private static boolean compatible(Issue a, Issue b) {
        return contains(a.has, b.has) && contains(b.needs, a.needs);
    }

    int open() {
        state(faces.size() < 4);
        faces.add(new ArrayList<>());
        return faces.size() - 1;
    }

    int publish(int face, int has, int needs) {
        bound(isFace(face));
        argument(isSet(has) && needs >= 0 && contains(has, needs));
        List<Issue> issues = faces.get(face);
        state(issues.size() < 6);
        Issue i = new Issue();
        i.has = has;
        i.needs = needs;
        int count = (int) issues.stream().filter(old -> compatible(i, old)).count();
        issues.add(i);
        return count;
    }

    private boolean isCaller(int client, int face, int version) {
        return calls.stream().anyMatch(m -> m.client == client && m.face == face && m.version == version
                && now - m.hour < 24);
    }

    private boolean isWarned(Issue i, int owner) {
        return i.answered[owner] || i.askedAt[owner] != null && now - i.askedAt[owner] >= 72;
    }

    private int hinderers(int face, int version) {
        Issue i = issue(face, version);
        int count = 0;
        for (int c = 0; c < users.size(); c++) {
            User u = users.get(c);
            if (i.state == 1 && isCaller(c, face, version) && !isWarned(i, u.owner)
                    && bestRoute(u, version).isEmpty()) {
                count++;
            }
        }
        return count;
    }

    /** Places 0 and on: the adapters; empty without a route. */
    private List<Integer> bestRoute(User u, int from) {
        List<List<Integer>> ways = new ArrayList<>();
        ways.add(List.of());
        for (int length = 1; length <= 3; length++) {
            List<List<Integer>> longer = new ArrayList<>();
            for (List<Integer> way : ways) {
                for (int a = 0; a < leads.size(); a++) {
                    List<Integer> next = new ArrayList<>(way);
                    next.add(a);
                    longer.add(next);
                }
            }
            for (List<Integer> way : longer) {
                if (isRoute(u, from, way)) {
                    return way;
                }
            }
            longer.removeIf(way -> !isChain(u, from, way));
            ways = longer;
        }
        return List.of();
    }

    private boolean isChain(User u, int from, List<Integer> way) {
        int at = from;
        for (int a : way) {
            Lead lead = leads.get(a);
            if (lead.face != u.face || lead.from != at) {
                return false;
            }
            at = lead.to;
        }
        return true;
    }

    private boolean isRoute(User u, int from, List<Integer> way) {
        if (!isChain(u, from, way)) {
            return false;
        }
        Issue goal = issue(u.face, leads.get(way.get(way.size() - 1)).to);
        return goal.state == 0 && fits(makes(u, way), goal.has, goal.needs);
    }

    private int makes(User u, List<Integer> way) {
        int fields = u.uses;
        for (int a : way) {
            for (int k = 0; k < 8; k++) {
                int bit = 1 << k;
                if ((leads.get(a).drops & bit) != 0) {
                    fields = (fields | bit) - bit;
                }
                if ((leads.get(a).adds & bit) != 0) {
                    fields = fields | bit;
                }
            }
        }
        return fields;
    }

    private long count(java.util.function.Predicate<Made> which) {
        return calls.stream().filter(which).count();
    }

    int ofVersion(int face, int version, int what) {
        Issue i = issue(face, version);
        argument(what >= 0 && what <= 10);
        int callers = 0;
        for (int c = 0; c < users.size(); c++) {
            callers += isCaller(c, face, version) ? 1 : 0;
        }
        long[] facts = {i.has, i.needs, i.state, i.state == 0 ? -1 : i.began, i.state == 0 ? -1 : i.end, callers,
            what == 6 ? hinderers(face, version) : 0, i.putOff,
            count(m -> m.face == face && m.version == version),
            count(m -> m.face == face && m.version == version && m.outcome >= 2),
            users.stream().filter(u -> u.face == face && u.version == version).count()};
        return (int) facts[what];
    }

    int isCompatible(int face, int version, int other) {
        return compatible(issue(face, version), issue(face, other)) ? 1 : 0;
    }

    int client(int owner, int face, int version, int uses) {
        Issue i = issue(face, version);
        argument(owner >= 0 && owner <= 4 && isSet(uses) && fits(uses, i.has, i.needs));
        state(users.size() < 10 && i.state == 0);
        User u = new User();
        u.owner = owner;
        u.face = face;
        u.version = version;
        u.uses = uses;
        users.add(u);
        return users.size() - 1;
    }

    private static int usesThen(User u, Issue i) {
        int then = i.needs;
        for (int bit = 1; bit < 256; bit *= 2) {
            if ((u.uses & bit) != 0 && (i.has & bit) != 0) {
                then |= bit;
            }
        }
        return then;
    }

    int again(int client, int version) {
        User u = user(client);
        Issue i = issue(u.face, version);
        state(i.state == 0);
        u.uses = usesThen(u, i);
        u.version = version;
        return u.uses;
    }

    int adapter(int face, int from, int to, int adds, int drops) {
        issue(face, from);
        issue(face, to);
        argument(from != to && isSet(adds) && isSet(drops));
        state(leads.size() < 10);
        leads.add(new Lead(face, from, to, adds, drops));
        return leads.size() - 1;
    }

    int ofClient(int client, int what) {
        User u = user(client);
        argument(what >= 0 && what <= 8);
        switch (what) {
            case 0: return u.owner;
            case 1: return u.face;
            case 2: return u.version;
            case 3: return u.uses;
            case 4: return (int) count(m -> m.client == client);
            case 5: return (int) count(m -> m.client == client && m.outcome >= 2);
            default:
        }
        List<Integer> way = bestRoute(u, u.version);
        if (way.isEmpty()) {
            return -1;
        }
        return what == 6 ? way.size() : what == 7 ? leads.get(way.get(way.size() - 1)).to : makes(u, way);
    }

    int routed(int client, int k) {
        User u = user(client);
        List<Integer> way = bestRoute(u, u.version);
        bound(k >= 0 && k < way.size());
        return way.get(k);
    }

    private int callOnce(int client) {
        User u = users.get(client);
        Issue i = issue(u.face, u.version);
        if (i.state == 1 && i.askedAt[u.owner] == null) {
            i.askedAt[u.owner] = now;
        }
        int outcome = 0;
        if (i.state == 1) {
            int day = (now - i.began) / 24;
            int hour = (now - i.began) % 24;
            long servedNow = count(m -> m.client == client && m.face == u.face && m.version == u.version
                    && m.hour == now && m.outcome < 2);
            if (hour < 2 * day && hour < 12) {
                outcome = 2;
            } else if (servedNow >= Math.max(1, 8 - day)) {
                outcome = 3;
            }
        } else if (i.state == 2) {
            outcome = bestRoute(u, u.version).isEmpty() ? 4 : 1;
        }
        calls.add(new Made(client, u.face, u.version, now, outcome));
        return outcome;
    }

    int call(int client, int times) {
        user(client);
        argument(times >= 1 && times <= 20);
        int served = 0;
        for (int k = 0; k < times; k++) {
            served += callOnce(client) < 2 ? 1 : 0;
        }
        return served;
    }

    private int lookAtEnds() {
        int gone = 0;
        for (int f = 0; f < faces.size(); f++) {
            for (int v = 0; v < faces.get(f).size(); v++) {
                Issue i = issue(f, v);
                if (i.state == 1 && i.end == now) {
                    if (hinderers(f, v) == 0) {
                        i.state = 2;
                        gone++;
                    } else {
                        i.end += 24;
                        i.putOff++;
                    }
                }
            }
        }
        return gone;
    }

    int pass(int hours) {
        argument(hours >= 1 && hours <= 100);
        int gone = 0;
        for (int k = 0; k < hours; k++) {
            now++;
            gone += lookAtEnds();
        }
        return gone;
    }

    int lastCall(int client, int version) {
        issue(user(client).face, version);
        int last = -1;
        for (Made m : calls) {
            if (m.client == client && m.version == version) {
                last = now - m.hour;
            }
        }
        return last;
    }

    int retire(int face, int version, int days) {
        Issue i = issue(face, version);
        argument(days >= 1 && days <= 9);
        state(i.state == 0);
        i.state = 1;
        i.began = now;
        i.end = now + 24 * days;
        int count = 0;
        for (int c = 0; c < users.size(); c++) {
            int owner = users.get(c).owner;
            if (isCaller(c, face, version) && i.askedAt[owner] == null) {
                i.askedAt[owner] = now;
                count++;
            }
        }
        return count;
    }

    int answer(int owner, int face, int version) {
        bound(owner >= 0 && owner <= 4);
        Issue i = issue(face, version);
        state(i.state == 1 && i.askedAt[owner] != null);
        boolean warned = isWarned(i, owner);
        i.answered[owner] = true;
        return warned ? 1 : 0;
    }

    int recall(int face, int version) {
        Issue i = issue(face, version);
        state(i.state == 1);
        i.state = 0;
        i.askedAt = new Integer[5];
        i.answered = new boolean[5];
        return i.end - now;
    }

    int asked(int owner, int face, int version) {
        bound(owner >= 0 && owner <= 4);
        Issue i = issue(face, version);
        if (i.state != 1 || i.askedAt[owner] == null) {
            return 0;
        }
        return i.answered[owner] ? 3 : isWarned(i, owner) ? 2 : 1;
    }

    int many(int what) {
        argument(what >= 0 && what <= 10);
        int[] states = new int[3];
        for (List<Issue> face : faces) {
            for (Issue i : face) {
                states[i.state]++;
            }
        }
        long[] counts = {faces.size(), states[0] + states[1] + states[2], states[0], states[1], states[2],
            users.size(), leads.size(), calls.size(), count(m -> m.outcome >= 2), count(m -> m.outcome == 1), now};
        return (int) counts[what];
    }

    double servedShare() {
        return calls.isEmpty() ? 1 : 1.0 * count(m -> m.outcome < 2) / calls.size();
    }

    int wouldCome(int client, int hours) {
        user(client);
        argument(hours >= 0 && hours <= 100);
        PlainModel then = copy();
        if (hours > 0) {
            then.pass(hours);
        }
        return then.callOnce(client);
    }

    int goneIn(int face, int version) {
        Issue i = issue(face, version);
        if (i.state != 1) {
            return i.state == 0 ? -1 : 0;
        }
        PlainModel then = copy();
        for (int hours = 1; hours < 5000; hours++) {
            List<Integer> callers = new ArrayList<>();
            for (int c = 0; c < users.size(); c++) {
                User u = users.get(c);
                if (u.face == face && u.version == version && then.isCaller(c, face, version)) {
                    callers.add(c);
                }
            }
            then.now++;
            for (int c : callers) {
                then.callOnce(c);
            }
            then.lookAtEnds();
            if (then.issue(face, version).state == 2) {
                return hours;
            }
        }
        throw new AssertionError("it is never gone");
    }

    int wouldBreak(int face, int has, int needs) {
        bound(isFace(face));
        argument(isSet(has) && needs >= 0 && contains(has, needs));
        return (int) users.stream().filter(u -> u.face == face && !fits(u.uses, has, needs)).count();
    }

    int target(int client) {
        User u = user(client);
        int best = -1;
        int fewest = 100;
        for (int v = faces.get(u.face).size() - 1; v >= 0; v--) {
            Issue i = issue(u.face, v);
            int changed = 0;
            for (int bit = 1; bit < 256; bit *= 2) {
                changed += (usesThen(u, i) & bit) != (u.uses & bit) ? 1 : 0;
            }
            if (i.state == 0 && changed < fewest) {
                best = v;
                fewest = changed;
            }
        }
        return best;
    }

    int goneBy(int face, int version, int days) {
        Issue i = issue(face, version);
        argument(days >= 1 && days <= 9);
        state(i.state == 0);
        PlainModel then = copy();
        then.retire(face, version, days);
        return then.goneIn(face, version);
    }

    long digest() {
        List<Integer> numbers = new ArrayList<>();
        for (int what = 0; what <= 10; what++) {
            numbers.add(many(what));
        }
        for (int f = 0; f < faces.size(); f++) {
            for (int v = 0; v < faces.get(f).size(); v++) {
                for (int what = 0; what <= 10; what++) {
                    numbers.add(ofVersion(f, v, what));
                }
                numbers.add(goneIn(f, v));
                for (int owner = 0; owner < 5; owner++) {
                    numbers.add(asked(owner, f, v));
                }
            }
        }
        for (int c = 0; c < users.size(); c++) {
            for (int what = 0; what <= 8; what++) {
                numbers.add(ofClient(c, what));
            }
            numbers.addAll(bestRoute(users.get(c), users.get(c).version));
            for (int v = 0; v < faces.get(users.get(c).face).size(); v++) {
                numbers.add(lastCall(c, v));
            }
            numbers.add(wouldCome(c, 0));
            numbers.add(wouldCome(c, 30));
            numbers.add(target(c));
        }
        long d = 58106;
        for (int v : numbers) {
            d = d * 31 + v;
        }
        return d;
    }
}
