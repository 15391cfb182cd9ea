import java.util.Arrays;

/** A registry of interfaces, their clients, their traffic, and their retirements. */
public final class ServiceApiary {
    private static final int NONE = -1;
    private static final int MOST_FACES = 4;
    private static final int MOST_VERSIONS = 6;
    private static final int MOST_CLIENTS = 10;
    private static final int MOST_ADAPTERS = 10;
    private static final int OWNERS = 5;
    private static final int ALL_FIELDS = 255;
    private static final int LONGEST_ROUTE = 3;
    private static final int MOST_TIMES = 20;
    private static final int MOST_HOURS = 100;
    private static final int MOST_DAYS = 9;
    private static final int LAST_COUNT = 10;
    private static final int LAST_VERSION_FACT = 10;
    private static final int LAST_CLIENT_FACT = 8;

    private static final int DAY = 24;
    private static final int SILENCE = 72;
    private static final int FULL_QUOTA = 8;
    private static final int LONGEST_BROWNOUT = 12;

    private static final int OPEN = 0;
    private static final int RETIRING = 1;
    private static final int GONE = 2;

    private static final int SERVED = 0;
    private static final int SERVED_BY_ROUTE = 1;
    private static final int BROWNED_OUT = 2;
    private static final int OVER_QUOTA = 3;
    private static final int WITHOUT_ROUTE = 4;

    /** Each owner that can hinder is warned 72 hours from now at the latest: four ends suffice by far. */
    private static final int MOST_ENDS = 100;

    private static final int DIGEST_START = 58106;
    private static final int DIGEST_FACTOR = 31;
    private static final int DIGEST_HOURS = 30;

    private final Face[] faces = new Face[MOST_FACES];
    private final Client[] clients = new Client[MOST_CLIENTS];
    private final Adapter[] adapters = new Adapter[MOST_ADAPTERS];
    private int faceCount;
    private int clientCount;
    private int adapterCount;
    private int now;
    private int callCount;
    private int refusedCount;
    private int byRouteCount;
    /** The route that was looked for last; made once, so that a search makes no objects. */
    private final Route route = new Route();
    /** A retirement that is only supposed, for what would be. */
    private final Retirement trial = new Retirement();

    private static final class Face {
        final int number;
        final Version[] versions = new Version[MOST_VERSIONS];
        int count;

        Face(int number) {
            this.number = number;
        }

        Version versionAt(int version) {
            return version >= 0 && version < versions.length ? versions[version] : null;
        }
    }

    private static final class Version {
        final Face face;
        final int number;
        final int has;
        final int needs;
        final Retirement retirement = new Retirement();
        int state = OPEN;
        int putOffCount;
        int callCount;
        int refusedCount;

        Version(Face face, int number, int has, int needs) {
            this.face = face;
            this.number = number;
            this.has = has;
            this.needs = needs;
        }

        boolean suits(Version other) {
            return (other.has & ~has) == 0 && (needs & ~other.needs) == 0;
        }

        int usesAgain(int uses) {
            return needs | (uses & has);
        }
    }

    /** What is told of a version while it is retiring; began and end stay when it is gone. */
    private static final class Retirement {
        final int[] askedAt = new int[OWNERS];
        int began;
        int end;
        int answered;

        Retirement() {
            began = NONE;
            end = NONE;
            Arrays.fill(askedAt, NONE);
        }

        void start(int hour, int days) {
            clear();
            began = hour;
            end = hour + days * DAY;
        }

        void clear() {
            began = NONE;
            end = NONE;
            answered = 0;
            Arrays.fill(askedAt, NONE);
        }

        int askedAtOf(int owner) {
            return owner >= 0 && owner < askedAt.length ? askedAt[owner] : NONE;
        }

        /** Asks an owner that was not asked; answers whether it was not. */
        boolean ask(int owner, int hour) {
            if (owner < 0 || owner >= askedAt.length || askedAt[owner] != NONE) {
                return false;
            }
            askedAt[owner] = hour;
            return true;
        }

        boolean hasAnswered(int owner) {
            return (answered >> owner & 1) == 1;
        }

        boolean isWarned(int owner, int hour) {
            int since = askedAtOf(owner);
            return hasAnswered(owner) || since != NONE && hour - since >= SILENCE;
        }

        boolean isBrownedOut(int hour) {
            int hourOfDay = (hour - began) % DAY;
            return hourOfDay < 2 * ((hour - began) / DAY) && hourOfDay < LONGEST_BROWNOUT;
        }

        int quota(int hour) {
            return Math.max(1, FULL_QUOTA - (hour - began) / DAY);
        }
    }

    private static final class Client {
        final int owner;
        final Face face;
        final int[] calledAt = new int[MOST_VERSIONS];
        final int[] servedThisHour = new int[MOST_VERSIONS];
        Version version;
        int uses;
        int callCount;
        int refusedCount;

        Client(int owner, Version version, int uses) {
            this.owner = owner;
            this.face = version.face;
            this.version = version;
            this.uses = uses;
            Arrays.fill(calledAt, NONE);
        }

        int calledAtOf(Version v) {
            boolean own = v.face == face && v.number >= 0 && v.number < calledAt.length;
            return own ? calledAt[v.number] : NONE;
        }

        boolean isCallerOf(Version v, int hour) {
            int last = calledAtOf(v);
            return last != NONE && hour - last < DAY;
        }

        int servedThisHourBy(Version v) {
            boolean own = v.face == face && v.number >= 0 && v.number < servedThisHour.length;
            return own ? servedThisHour[v.number] : 0;
        }

        void noteCall(int hour, boolean served) {
            callCount++;
            if (!served) {
                refusedCount++;
            }
            int place = version.number;
            if (place >= 0 && place < calledAt.length && place < servedThisHour.length) {
                calledAt[place] = hour;
                servedThisHour[place] += served ? 1 : 0;
            }
        }
    }

    private static final class Adapter {
        final Version from;
        final Version to;
        final int adds;
        final int drops;

        Adapter(Version from, Version to, int adds, int drops) {
            this.from = from;
            this.to = to;
            this.adds = adds;
            this.drops = drops;
        }

        int makesOf(int fields) {
            return fields & ~drops | adds;
        }
    }

    private static final class Route {
        final int[] steps = new int[LONGEST_ROUTE];
        int length;
        int leadsTo;
        int makes;
        /** A version that counts as not open here; null without one. */
        Version shut;
    }

    public ServiceApiary() {
    }

    // ---- interfaces

    public int open() throws IllegalStateException {
        if (faceCount < 0 || faceCount >= faces.length) {
            throw new IllegalStateException("there are 4 interfaces");
        }
        faces[faceCount] = new Face(faceCount);
        return faceCount++;
    }

    public int publish(int face, int has, int needs)
            throws IndexOutOfBoundsException, IllegalArgumentException, IllegalStateException {
        Face f = faceAt(face);
        if (f == null) {
            throw new IndexOutOfBoundsException("no such interface");
        }
        if (!isShape(has, needs)) {
            throw new IllegalArgumentException("no such sets of fields");
        }
        int number = f.count;
        if (number < 0 || number >= f.versions.length) {
            throw new IllegalStateException("there are 6 versions");
        }
        Version v = new Version(f, number, has, needs);
        int suited = countSuited(v);
        f.versions[number] = v;
        f.count = number + 1;
        return suited;
    }

    public int ofVersion(int face, int version, int what)
            throws IndexOutOfBoundsException, IllegalArgumentException {
        Version v = versionAt(face, version);
        if (v == null) {
            throw new IndexOutOfBoundsException("no such interface or version");
        }
        if (what < 0 || what > LAST_VERSION_FACT) {
            throw new IllegalArgumentException("what is not 0 to 10");
        }
        return versionFact(v, what);
    }

    public boolean isCompatible(int face, int version, int other) throws IndexOutOfBoundsException {
        Version v = versionAt(face, version);
        Version o = versionAt(face, other);
        if (v == null || o == null) {
            throw new IndexOutOfBoundsException("no such interface or version");
        }
        return v.suits(o);
    }

    // ---- clients and adapters

    public int client(int owner, int face, int version, int uses)
            throws IndexOutOfBoundsException, IllegalArgumentException, IllegalStateException {
        Version v = versionAt(face, version);
        if (v == null) {
            throw new IndexOutOfBoundsException("no such interface or version");
        }
        if (!isOwner(owner) || !isFieldSet(uses) || !fits(uses, v.has, v.needs)) {
            throw new IllegalArgumentException("no such owner, or fields that do not fit");
        }
        if (clientCount < 0 || clientCount >= clients.length || v.state != OPEN) {
            throw new IllegalStateException("there are 10 clients, or the version is not open");
        }
        clients[clientCount] = new Client(owner, v, uses);
        return clientCount++;
    }

    public int again(int client, int version) throws IndexOutOfBoundsException, IllegalStateException {
        Client c = clientAt(client);
        Version v = c == null ? null : c.face.versionAt(version);
        if (c == null || v == null) {
            throw new IndexOutOfBoundsException("no such client or version");
        }
        if (v.state != OPEN) {
            throw new IllegalStateException("the version is not open");
        }
        c.uses = v.usesAgain(c.uses);
        c.version = v;
        return c.uses;
    }

    public int adapter(int face, int from, int to, int adds, int drops)
            throws IndexOutOfBoundsException, IllegalArgumentException, IllegalStateException {
        Version start = versionAt(face, from);
        Version goal = versionAt(face, to);
        if (start == null || goal == null) {
            throw new IndexOutOfBoundsException("no such interface or version");
        }
        if (start == goal || !isFieldSet(adds) || !isFieldSet(drops)) {
            throw new IllegalArgumentException("the same version twice, or no set of fields");
        }
        if (adapterCount < 0 || adapterCount >= adapters.length) {
            throw new IllegalStateException("there are 10 adapters");
        }
        adapters[adapterCount] = new Adapter(start, goal, adds, drops);
        return adapterCount++;
    }

    public int ofClient(int client, int what) throws IndexOutOfBoundsException, IllegalArgumentException {
        Client c = clientAt(client);
        if (c == null) {
            throw new IndexOutOfBoundsException("no such client");
        }
        if (what < 0 || what > LAST_CLIENT_FACT) {
            throw new IllegalArgumentException("what is not 0 to 8");
        }
        return clientFact(c, what);
    }

    public int routed(int client, int k) throws IndexOutOfBoundsException {
        Client c = clientAt(client);
        if (c == null || !findOwnRoute(c) || k < 0 || k >= route.length || k >= route.steps.length) {
            throw new IndexOutOfBoundsException("no such client, route or place");
        }
        return route.steps[k];
    }

    // ---- traffic

    public int call(int client, int times) throws IndexOutOfBoundsException, IllegalArgumentException {
        Client c = clientAt(client);
        if (c == null) {
            throw new IndexOutOfBoundsException("no such client");
        }
        if (times < 1 || times > MOST_TIMES) {
            throw new IllegalArgumentException("times is not 1 to 20");
        }
        int served = 0;
        for (int k = 0; k < times; k++) {
            if (isServedCall(c)) {
                served++;
            }
        }
        return served;
    }

    public int pass(int hours) throws IllegalArgumentException {
        if (hours < 1 || hours > MOST_HOURS) {
            throw new IllegalArgumentException("hours is not 1 to 100");
        }
        int gone = 0;
        for (int k = 0; k < hours; k++) {
            gone += beginHour();
        }
        return gone;
    }

    public int lastCall(int client, int version) throws IndexOutOfBoundsException {
        Client c = clientAt(client);
        Version v = c == null ? null : c.face.versionAt(version);
        if (c == null || v == null) {
            throw new IndexOutOfBoundsException("no such client or version");
        }
        return hoursSinceCall(c, v);
    }

    // ---- retirements

    public int retire(int face, int version, int days)
            throws IndexOutOfBoundsException, IllegalArgumentException, IllegalStateException {
        Version v = versionAt(face, version);
        if (v == null) {
            throw new IndexOutOfBoundsException("no such interface or version");
        }
        if (days < 1 || days > MOST_DAYS) {
            throw new IllegalArgumentException("days is not 1 to 9");
        }
        if (v.state != OPEN) {
            throw new IllegalStateException("the version is not open");
        }
        v.state = RETIRING;
        return startRetirement(v, v.retirement, days);
    }

    public boolean answer(int owner, int face, int version)
            throws IndexOutOfBoundsException, IllegalStateException {
        Version v = versionAt(face, version);
        if (v == null || !isOwner(owner)) {
            throw new IndexOutOfBoundsException("no such owner, interface or version");
        }
        if (v.state != RETIRING || v.retirement.askedAtOf(owner) == NONE) {
            throw new IllegalStateException("the version is not retiring, or the owner was not asked");
        }
        boolean warned = v.retirement.isWarned(owner, now);
        v.retirement.answered |= 1 << owner;
        return warned;
    }

    public int recall(int face, int version) throws IndexOutOfBoundsException, IllegalStateException {
        Version v = versionAt(face, version);
        if (v == null) {
            throw new IndexOutOfBoundsException("no such interface or version");
        }
        if (v.state != RETIRING) {
            throw new IllegalStateException("the version is not retiring");
        }
        int left = v.retirement.end - now;
        v.state = OPEN;
        v.retirement.clear();
        return left;
    }

    public int asked(int owner, int face, int version) throws IndexOutOfBoundsException {
        Version v = versionAt(face, version);
        if (v == null || !isOwner(owner)) {
            throw new IndexOutOfBoundsException("no such owner, interface or version");
        }
        return askedState(owner, v);
    }

    public int many(int what) throws IllegalArgumentException {
        if (what < 0 || what > LAST_COUNT) {
            throw new IllegalArgumentException("what is not 0 to 10");
        }
        return countOf(what);
    }

    public double servedShare() {
        if (callCount == 0) {
            return 1.0;
        }
        return (double) (callCount - refusedCount) / (double) callCount;
    }

    // ---- what would be (nothing is changed)

    public int wouldCome(int client, int hours) throws IndexOutOfBoundsException, IllegalArgumentException {
        Client c = clientAt(client);
        if (c == null) {
            throw new IndexOutOfBoundsException("no such client");
        }
        if (hours < 0 || hours > MOST_HOURS) {
            throw new IllegalArgumentException("hours is not 0 to 100");
        }
        return outcomeIn(c, hours);
    }

    public int goneIn(int face, int version) throws IndexOutOfBoundsException {
        Version v = versionAt(face, version);
        if (v == null) {
            throw new IndexOutOfBoundsException("no such interface or version");
        }
        return hoursLeft(v);
    }

    public int wouldBreak(int face, int has, int needs)
            throws IndexOutOfBoundsException, IllegalArgumentException {
        Face f = faceAt(face);
        if (f == null) {
            throw new IndexOutOfBoundsException("no such interface");
        }
        if (!isShape(has, needs)) {
            throw new IllegalArgumentException("no such sets of fields");
        }
        int broken = 0;
        for (int k = 0; k < clients.length; k++) {
            Client c = clients[k];
            if (c != null && c.face == f && !fits(c.uses, has, needs)) {
                broken++;
            }
        }
        return broken;
    }

    public int target(int client) throws IndexOutOfBoundsException {
        Client c = clientAt(client);
        if (c == null) {
            throw new IndexOutOfBoundsException("no such client");
        }
        return nearestOpen(c);
    }

    public int goneBy(int face, int version, int days)
            throws IndexOutOfBoundsException, IllegalArgumentException, IllegalStateException {
        Version v = versionAt(face, version);
        if (v == null) {
            throw new IndexOutOfBoundsException("no such interface or version");
        }
        if (days < 1 || days > MOST_DAYS) {
            throw new IllegalArgumentException("days is not 1 to 9");
        }
        if (v.state != OPEN) {
            throw new IllegalStateException("the version is not open");
        }
        startRetirement(v, trial, days);
        return hoursTillGone(v, trial, true);
    }

    public long digest() {
        long d = DIGEST_START;
        for (int what = 0; what <= LAST_COUNT; what++) {
            d = d * DIGEST_FACTOR + countOf(what);
        }
        for (int f = 0; f < MOST_FACES; f++) {
            for (int k = 0; k < MOST_VERSIONS; k++) {
                Version v = versionAt(f, k);
                if (v != null) {
                    d = digestVersion(d, v);
                }
            }
        }
        for (int k = 0; k < clients.length; k++) {
            Client c = clients[k];
            if (c != null) {
                d = digestClient(d, c);
            }
        }
        return d;
    }

    // ---- what the calls share

    private Face faceAt(int face) {
        return face >= 0 && face < faces.length ? faces[face] : null;
    }

    private Version versionAt(int face, int version) {
        Face f = faceAt(face);
        return f == null ? null : f.versionAt(version);
    }

    private Client clientAt(int client) {
        return client >= 0 && client < clients.length ? clients[client] : null;
    }

    private static boolean isOwner(int owner) {
        return owner >= 0 && owner < OWNERS;
    }

    private static boolean isFieldSet(int fields) {
        return fields >= 0 && fields <= ALL_FIELDS;
    }

    private static boolean isShape(int has, int needs) {
        return isFieldSet(has) && needs >= 0 && (needs & ~has) == 0;
    }

    private static boolean fits(int fields, int has, int needs) {
        return (needs & ~fields) == 0 && (fields & ~has) == 0;
    }

    private static int countSuited(Version v) {
        int suited = 0;
        for (int k = 0; k < v.number; k++) {
            Version earlier = v.face.versionAt(k);
            if (earlier != null && v.suits(earlier)) {
                suited++;
            }
        }
        return suited;
    }

    private int versionFact(Version v, int what) {
        switch (what) {
            case 0: return v.has;
            case 1: return v.needs;
            case 2: return v.state;
            case 3: return v.retirement.began;
            case 4: return v.retirement.end;
            case 5: return countCallers(v);
            case 6: return v.state == RETIRING ? countHinderers(v, v.retirement, now, false) : 0;
            case 7: return v.putOffCount;
            case 8: return v.callCount;
            case 9: return v.refusedCount;
            default: return countGeneratedFor(v);
        }
    }

    private int clientFact(Client c, int what) {
        switch (what) {
            case 0: return c.owner;
            case 1: return c.face.number;
            case 2: return c.version.number;
            case 3: return c.uses;
            case 4: return c.callCount;
            case 5: return c.refusedCount;
            case 6: return findOwnRoute(c) ? route.length : NONE;
            case 7: return findOwnRoute(c) ? route.leadsTo : NONE;
            default: return findOwnRoute(c) ? route.makes : NONE;
        }
    }

    private int countOf(int what) {
        switch (what) {
            case 0: return faceCount;
            case 1: return countVersions(OPEN) + countVersions(RETIRING) + countVersions(GONE);
            case 2: return countVersions(OPEN);
            case 3: return countVersions(RETIRING);
            case 4: return countVersions(GONE);
            case 5: return clientCount;
            case 6: return adapterCount;
            case 7: return callCount;
            case 8: return refusedCount;
            case 9: return byRouteCount;
            default: return now;
        }
    }

    private int countVersions(int state) {
        int count = 0;
        for (int f = 0; f < MOST_FACES; f++) {
            for (int k = 0; k < MOST_VERSIONS; k++) {
                Version v = versionAt(f, k);
                if (v != null && v.state == state) {
                    count++;
                }
            }
        }
        return count;
    }

    private int countCallers(Version v) {
        int count = 0;
        for (int k = 0; k < clients.length; k++) {
            Client c = clients[k];
            if (c != null && c.isCallerOf(v, now)) {
                count++;
            }
        }
        return count;
    }

    private int countGeneratedFor(Version v) {
        int count = 0;
        for (int k = 0; k < clients.length; k++) {
            Client c = clients[k];
            if (c != null && c.version == v) {
                count++;
            }
        }
        return count;
    }

    private int hoursSinceCall(Client c, Version v) {
        int last = c.calledAtOf(v);
        return last == NONE ? NONE : now - last;
    }

    private int askedState(int owner, Version v) {
        Retirement r = v.retirement;
        if (v.state != RETIRING || r.askedAtOf(owner) == NONE) {
            return 0;
        }
        if (r.hasAnswered(owner)) {
            return 3;
        }
        return r.isWarned(owner, now) ? 2 : 1;
    }

    private int nearestOpen(Client c) {
        int nearest = NONE;
        int fewest = 0;
        for (int k = 0; k < MOST_VERSIONS; k++) {
            Version v = c.face.versionAt(k);
            if (v != null && v.state == OPEN) {
                int changed = Integer.bitCount(v.usesAgain(c.uses) ^ c.uses);
                // <=, as of several the greatest number is due
                if (nearest == NONE || changed <= fewest) {
                    nearest = k;
                    fewest = changed;
                }
            }
        }
        return nearest;
    }

    // ---- routes

    private boolean findOwnRoute(Client c) {
        return findRoute(c, c.version, null);
    }

    /** Looks for the best route and leaves it in the field route; shut counts as not open. */
    private boolean findRoute(Client c, Version from, Version shut) {
        route.shut = shut;
        for (int length = 1; length <= LONGEST_ROUTE; length++) {
            route.length = length;
            if (completes(route, adapters, from, c.uses, 0)) {
                return true;
            }
        }
        route.length = 0;
        return false;
    }

    /**
     * Tries what can stand at the route's places from this one on. Adapters are tried by their
     * numbers, so the first route found is the best of its length. The depth is place, 3 at most.
     */
    private static boolean completes(Route route, Adapter[] adapters, Version at, int fields, int place) {
        if (place < 0 || place > LONGEST_ROUTE) {
            return false;
        }
        if (place >= route.length || place >= route.steps.length) {
            route.leadsTo = at.number;
            route.makes = fields;
            return at.state == OPEN && at != route.shut && fits(fields, at.has, at.needs);
        }
        for (int k = 0; k < adapters.length; k++) {
            Adapter a = adapters[k];
            if (a != null && a.from == at) {
                route.steps[place] = k;
                if (completes(route, adapters, a.to, a.makesOf(fields), place + 1)) {
                    return true;
                }
            }
        }
        return false;
    }

    // ---- calls and hours

    private boolean isServedCall(Client c) {
        Version v = c.version;
        if (v.state == RETIRING) {
            v.retirement.ask(c.owner, now);
        }
        int outcome = outcomeOf(c, v.state, now, c.servedThisHourBy(v));
        boolean served = outcome == SERVED || outcome == SERVED_BY_ROUTE;
        c.noteCall(now, served);
        v.callCount++;
        callCount++;
        if (!served) {
            v.refusedCount++;
            refusedCount++;
        }
        if (outcome == SERVED_BY_ROUTE) {
            byRouteCount++;
        }
        return served;
    }

    /** What comes of a call of a client to its version, if that is in this state in that hour. */
    private int outcomeOf(Client c, int state, int hour, int servedBefore) {
        Version v = c.version;
        if (state == OPEN) {
            return SERVED;
        }
        if (state == GONE) {
            return findRoute(c, v, v) ? SERVED_BY_ROUTE : WITHOUT_ROUTE;
        }
        if (v.retirement.isBrownedOut(hour)) {
            return BROWNED_OUT;
        }
        return servedBefore >= v.retirement.quota(hour) ? OVER_QUOTA : SERVED;
    }

    private int outcomeIn(Client c, int hours) {
        Version v = c.version;
        int state = v.state;
        if (state == RETIRING) {
            int till = hoursTillGone(v, v.retirement, false);
            if (till != NONE && till <= hours) {
                state = GONE;
            }
        }
        return outcomeOf(c, state, now + hours, hours == 0 ? c.servedThisHourBy(v) : 0);
    }

    /** Answers how many versions become gone as the next hour begins. */
    private int beginHour() {
        now++;
        for (int k = 0; k < clients.length; k++) {
            Client c = clients[k];
            if (c != null) {
                Arrays.fill(c.servedThisHour, 0);
            }
        }
        int gone = 0;
        for (int f = 0; f < MOST_FACES; f++) {
            for (int k = 0; k < MOST_VERSIONS; k++) {
                Version v = versionAt(f, k);
                if (v != null && v.state == RETIRING && v.retirement.end == now && isGoneAtEnd(v)) {
                    gone++;
                }
            }
        }
        return gone;
    }

    private boolean isGoneAtEnd(Version v) {
        if (countHinderers(v, v.retirement, now, false) == 0) {
            v.state = GONE;
            return true;
        }
        v.retirement.end += DAY;
        v.putOffCount++;
        return false;
    }

    /** Starts a retirement, real or supposed, of a version; answers how many owners are asked. */
    private int startRetirement(Version v, Retirement r, int days) {
        r.start(now, days);
        int count = 0;
        for (int k = 0; k < clients.length; k++) {
            Client c = clients[k];
            if (c != null && c.isCallerOf(v, now) && r.ask(c.owner, now)) {
                count++;
            }
        }
        return count;
    }

    /**
     * How many clients hinder a version, by this retirement of it, in an hour from now on. With
     * goOn, its callers that are generated for it have gone on to call it in each hour.
     */
    private int countHinderers(Version v, Retirement r, int hour, boolean goOn) {
        int count = 0;
        for (int k = 0; k < clients.length; k++) {
            Client c = clients[k];
            if (c != null && !r.isWarned(c.owner, hour) && isCallerThen(c, v, hour, goOn)
                    // shut: the version itself is retiring then, even if this is only supposed
                    && !findRoute(c, v, v)) {
                count++;
            }
        }
        return count;
    }

    private boolean isCallerThen(Client c, Version v, int hour, boolean goOn) {
        return c.isCallerOf(v, hour) || goOn && c.version == v && c.isCallerOf(v, now);
    }

    private int hoursTillGone(Version v, Retirement r, boolean goOn) {
        int end = r.end;
        for (int k = 0; k < MOST_ENDS; k++) {
            if (countHinderers(v, r, end, goOn) == 0) {
                return end - now;
            }
            end += DAY;
        }
        return NONE;
    }

    private int hoursLeft(Version v) {
        if (v.state == OPEN) {
            return NONE;
        }
        return v.state == GONE ? 0 : hoursTillGone(v, v.retirement, true);
    }

    // ---- the checksum

    private long digestVersion(long start, Version v) {
        long d = start;
        for (int what = 0; what <= LAST_VERSION_FACT; what++) {
            d = d * DIGEST_FACTOR + versionFact(v, what);
        }
        d = d * DIGEST_FACTOR + hoursLeft(v);
        for (int owner = 0; owner < OWNERS; owner++) {
            d = d * DIGEST_FACTOR + askedState(owner, v);
        }
        return d;
    }

    private long digestClient(long start, Client c) {
        long d = start;
        for (int what = 0; what <= LAST_CLIENT_FACT; what++) {
            d = d * DIGEST_FACTOR + clientFact(c, what);
        }
        findOwnRoute(c);
        for (int k = 0; k < route.length && k < route.steps.length; k++) {
            d = d * DIGEST_FACTOR + route.steps[k];
        }
        for (int k = 0; k < MOST_VERSIONS; k++) {
            Version v = c.face.versionAt(k);
            if (v != null) {
                d = d * DIGEST_FACTOR + hoursSinceCall(c, v);
            }
        }
        d = d * DIGEST_FACTOR + outcomeIn(c, 0);
        d = d * DIGEST_FACTOR + outcomeIn(c, DIGEST_HOURS);
        return d * DIGEST_FACTOR + nearestOpen(c);
    }
}
