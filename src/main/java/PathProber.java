import java.util.NoSuchElementException;

public final class PathProber {
    public static final int NONE = -1;

    private static final int REFUSED = -2;
    private static final int TAPE_MOST = 700;
    private static final int ROUTERS_MOST = 12;
    private static final int LINKS_MOST = 20;
    private static final int LINKS_FROM_ONE = 4;
    private static final int GOALS_MOST = 3;
    private static final int ADDRESSES_MOST = 21;
    private static final int HOPS_MOST = 10;
    private static final int PORTS = 32;
    private static final int TURNS = 60;
    private static final int COUNTER_WRAP = 256;
    private static final int LOSS_UNTOLD = 5;
    private static final int LOSS_MOST = 50;
    private static final int ACTS_MOST = 40;
    private static final int NOTES_MOST = 8;
    private static final int YEARS_MOST = 40;
    private static final int STATUSES = 3;

    /** No way has more routers than there are, so these hops never run out. */
    private static final int BEYOND_ALL = ROUTERS_MOST + 1;

    private static final int ONE = 0;
    private static final int BY_FLOW = 1;
    private static final int BY_PACKET = 2;
    private static final int BY_GOAL = 3;
    private static final int MUTE = 1;
    private static final int LATE = 2;
    private static final int SALTS = 16;
    private static final int CODES = 4 * SALTS;
    private static final int ENOUGH_MOST = 4;

    private static final int REFUSED_TEXTS = 0;
    private static final int REFUSED_ACTS = 1;
    private static final int REFUSED_NOTES = 2;

    private final Tape tape = new Tape();
    private final Net told = new Net();
    private final Net draft = new Net();
    private final Reader reader = new Reader(draft, tape);
    private final Condition now = new Condition();
    private final Condition aside = new Condition();
    private final Odds odds = new Odds();
    private final Sight sight = new Sight(told, now);
    private final Walk walk = new Walk(told, now);
    private final Sender sender = new Sender(told, now, walk, odds);
    private final Notebook notebook = new Notebook(told, walk);
    private final History history = new History();
    private final int[] status = new int[STATUSES];
    private boolean imageKept = false;
    private final Condition imageNow = new Condition();
    private final History imageHistory = new History();
    private final Notebook imageNotebook = new Notebook(told, walk);
    private final int[] imageStatus = new int[STATUSES];
    private int faultPlace = NONE;

    public PathProber() {
    }

    // ---- the text ----

    public int feed(int a, int b, int c, int d, int e) {
        if (!tape.hasRoomFor(20)) {
            return NONE;
        }
        tape.append(a);
        tape.append(b);
        tape.append(c);
        tape.append(d);
        tape.append(e);
        return tape.length;
    }

    public int net(int n) throws IllegalArgumentException {
        if (n < 0 || n > tape.length) {
            throw new IllegalArgumentException("the tape has not so many bytes");
        }
        int code = reader.readText(n);
        tape.length = 0;
        faultPlace = code == 0 ? NONE : reader.place;
        if (code != 0) {
            status[REFUSED_TEXTS]++;
            return code;
        }
        told.copyFrom(draft);
        told.findBranches();
        now.beginAnew(told.loss);
        history.size = 0;
        notebook.size = 0;
        imageKept = false;
        return 0;
    }

    public int fault() {
        return faultPlace;
    }

    // ---- what there is ----

    public int count(int what) throws NoSuchElementException {
        if (what >= 4 && what <= 7) {
            return odds.enoughFor(what - 3, now.loss);
        }
        if (what >= 13 && what <= 15) {
            return status[what - 13];
        }
        switch (what) {
            case 0: return told.routers;
            case 1: return told.links;
            case 2: return told.goals;
            case 3: return now.loss;
            case 8: return sight.addressesEverywhere();
            case 9: return now.sentInAll();
            case 10: return history.size;
            case 11: return notebook.size;
            case 12: return tape.length;
            case 16: return now.opened;
            case 17: return now.open;
            case 18: return now.deep;
            case 19: return now.muted;
            case 20: return now.lost;
            default: throw new NoSuchElementException("no such count");
        }
    }

    public int router(int router, int what) throws NoSuchElementException {
        mustBeRouter(router);
        switch (what) {
            case 0: return told.kind[router];
            case 1: return told.salt[router];
            case 2: return told.pace[router];
            case 3: return told.manner[router];
            case 4: return now.turn[router];
            case 5: return now.counter[router];
            case 6: return told.linksFrom(router);
            case 7: return told.goalAt(router);
            default: throw new NoSuchElementException("no such thing of a router");
        }
    }

    public int link(int link, int what) throws NoSuchElementException {
        mustBeLink(link);
        mustBeWhat(what, 1);
        return what == 0 ? told.from[link] : told.to[link];
    }

    // ---- what was seen ----

    public int seen(int port, int goal, int h) throws NoSuchElementException {
        mustBePort(port);
        mustBeGoal(goal);
        mustBeHops(h);
        return now.seenBy(port, goal, h);
    }

    public int hop(int goal, int h, int what) throws NoSuchElementException {
        mustBeGoal(goal);
        mustBeHops(h);
        switch (what) {
            case 0: return now.seenAt(goal, h);
            case 1: return now.sentAt(goal, h);
            case 2: return sight.edgesAt(goal, h);
            case 3: return told.placesAt(goal, h);
            case 4: return hiddenAt(goal, h);
            default: throw new NoSuchElementException("no such thing of a hop");
        }
    }

    public long sure(int goal, int h) throws NoSuchElementException {
        mustBeGoal(goal);
        mustBeHops(h);
        int met = Integer.bitCount(now.seenAt(goal, h));
        return met == 0 ? Odds.WHOLE : odds.missed(now.sentAt(goal, h), met + 1);
    }

    public long missing(int n, int m) throws IllegalArgumentException {
        if (n < 0 || n > Odds.PROBES_MOST || m < 1 || m > Odds.BRANCHES_MOST) {
            throw new IllegalArgumentException("n is 0 to 60, m is 1 to 5");
        }
        return odds.missed(n, m);
    }

    public int edge(int goal, int h, int from, int to) throws NoSuchElementException {
        mustBeGoal(goal);
        mustBeHops(h);
        mustBeAddress(from);
        mustBeAddress(to);
        if (h == HOPS_MOST) {
            throw new NoSuchElementException("no hop lies behind the last");
        }
        sight.drawEdges(goal, h);
        return (sight.edgesFrom[from] >> to) & 1;
    }

    public int diamond(int goal, int i, int what) throws NoSuchElementException {
        mustBeGoal(goal);
        mustBeWhat(what, 3);
        int diamonds = sight.findDiamonds(goal);
        if (i == NONE) {
            return diamonds;
        }
        if (i < 0 || i >= diamonds) {
            throw new NoSuchElementException("no such diamond");
        }
        int first = sight.diamondFirst[i];
        int last = sight.diamondLast[i];
        switch (what) {
            case 0: return first;
            case 1: return last;
            case 2: return sight.widthOf(goal, first, last);
            default: return sight.skewOf(goal, first, last);
        }
    }

    public int loop(int port, int goal, int what) throws NoSuchElementException {
        mustBePort(port);
        mustBeGoal(goal);
        mustBeWhat(what, 1);
        int h = sight.loopOf(port, goal);
        if (what == 0) {
            return h;
        }
        return h == NONE ? 0 : told.whyLoopAt(told.routerOf(now.seenBy(port, goal, h)));
    }

    // ---- what is so in truth ----

    public int truth(int goal, int what) throws NoSuchElementException {
        mustBeGoal(goal);
        switch (what) {
            case 0: return told.waysTo(goal);
            case 1: return told.longestTo(goal);
            case 2: return told.shortestTo(goal);
            case 3: return hiddenInAll(goal);
            default: throw new NoSuchElementException("no such truth");
        }
    }

    public int same(int address, int other) throws NoSuchElementException {
        mustBeAddress(address);
        mustBeAddress(other);
        return told.routerOf(address) == told.routerOf(other) ? 1 : 0;
    }

    public int port(int goal, int link) throws NoSuchElementException {
        mustBeGoal(goal);
        mustBeLink(link);
        for (int port = 0; port < PORTS; port++) {
            if (goesBy(port, goal, link)) {
                return port;
            }
        }
        return NONE;
    }

    public int use(int goal, int link) throws NoSuchElementException {
        mustBeGoal(goal);
        mustBeLink(link);
        int ports = 0;
        for (int port = 0; port < PORTS; port++) {
            if (goesBy(port, goal, link)) {
                ports++;
            }
        }
        return ports;
    }

    public int cover(int goal) throws NoSuchElementException {
        mustBeGoal(goal);
        int wanted = told.linksOnWaysTo(goal);
        for (int port = 0; port < PORTS; port++) {
            if (wanted == 0) {
                return port;
            }
            walk.takeAll(port, goal);
            wanted &= ~walk.links;
        }
        return wanted == 0 ? PORTS : NONE;
    }

    // ---- acts ----

    public int probe(int port, int goal, int h) {
        if (!isPort(port) || !told.hasGoal(goal) || !isHops(h)) {
            status[REFUSED_ACTS]++;
            return REFUSED;
        }
        history.keep(now);
        return sender.sendOne(port, goal, h);
    }

    public int ping(int address) {
        if (!wasSeen(address)) {
            return refuseAct();
        }
        history.keep(now);
        return sender.pingOne(address);
    }

    public int sweep(int goal, int h) {
        if (!told.hasGoal(goal) || !isHops(h)) {
            return refuseAct();
        }
        history.keep(now);
        return sender.sendSweep(goal, h);
    }

    public int trace(int port, int goal) {
        if (!isPort(port) || !told.hasGoal(goal)) {
            return refuseAct();
        }
        history.keep(now);
        return sender.sendTrace(port, goal);
    }

    public int twins(int address, int other) {
        if (address == other || !wasSeen(address) || !wasSeen(other)) {
            return refuseAct();
        }
        history.keep(now);
        return sender.pingByTurns(address, other) ? 1 : 0;
    }

    public int loss(int hundredths) {
        if (hundredths < 1 || hundredths > LOSS_MOST) {
            return refuseAct();
        }
        history.keep(now);
        int before = now.loss;
        now.loss = hundredths;
        return before;
    }

    public int clear() {
        history.keep(now);
        int probes = now.sentInAll();
        now.forgetAllSeen();
        return probes;
    }

    public int undo() {
        if (history.size == 0) {
            return NONE;
        }
        history.takeBack(now);
        return history.size;
    }

    // ---- what is noted ----

    public int note(int port, int goal, int h, int address) {
        boolean known = isPort(port) && told.hasGoal(goal) && isHops(h) && told.hasAddress(address);
        if (!known || notebook.size >= NOTES_MOST) {
            status[REFUSED_NOTES]++;
            return NONE;
        }
        notebook.write(port, goal, h, address);
        return notebook.size;
    }

    public int fits(int router, int what) throws NoSuchElementException {
        mustBeRouter(router);
        mustBeWhat(what, 1);
        long fitting = notebook.fitting(router);
        if (what == 0) {
            return Long.bitCount(fitting);
        }
        return fitting == 0 ? NONE : Long.numberOfTrailingZeros(fitting);
    }

    public int look(int router, int goal, int what) throws NoSuchElementException {
        mustBeRouter(router);
        mustBeGoal(goal);
        mustBeWhat(what, 1);
        notebook.lookNext(router, goal);
        return what == 0 ? notebook.bestPort : notebook.bestUnlike;
    }

    public void forget() {
        notebook.size = 0;
    }

    // ---- years, the image ----

    public int years(int seed, int n, int what) throws NoSuchElementException, IllegalArgumentException {
        mustBeWhat(what, 2);
        if (n < 0 || n > YEARS_MOST) {
            throw new IllegalArgumentException("n is 0 to 40");
        }
        // Years only ask what would come: what they change is put back.
        aside.copyFrom(now);
        sender.seed = seed;
        int probes = 0;
        for (int i = 0; i < n; i++) {
            probes += sender.passYear();
        }
        int answer = probes;
        if (what == 0) {
            answer = sight.edgesInAll();
        } else if (what == 2) {
            answer = now.countersInAll();
        }
        now.copyFrom(aside);
        return answer;
    }

    public void image() {
        imageKept = true;
        imageNow.copyFrom(now);
        imageHistory.copyFrom(history);
        imageNotebook.copyFrom(notebook);
        System.arraycopy(status, 0, imageStatus, 0, STATUSES);
    }

    public boolean restore() {
        if (!imageKept) {
            return false;
        }
        now.copyFrom(imageNow);
        history.copyFrom(imageHistory);
        notebook.copyFrom(imageNotebook);
        System.arraycopy(imageStatus, 0, status, 0, STATUSES);
        return true;
    }

    // ---- what the face shares ----

    private static boolean isPort(int port) {
        return port >= 0 && port < PORTS;
    }

    private static boolean isHops(int h) {
        return h >= 1 && h <= HOPS_MOST;
    }

    private static void mustBePort(int port) {
        if (!isPort(port)) {
            throw new NoSuchElementException("no such port");
        }
    }

    private static void mustBeHops(int h) {
        if (!isHops(h)) {
            throw new NoSuchElementException("no such hops");
        }
    }

    private static void mustBeWhat(int what, int most) {
        if (what < 0 || what > most) {
            throw new NoSuchElementException("no such thing to ask");
        }
    }

    private void mustBeRouter(int router) {
        if (!told.hasRouter(router)) {
            throw new NoSuchElementException("no such router");
        }
    }

    private void mustBeLink(int link) {
        if (!told.hasLink(link)) {
            throw new NoSuchElementException("no such link");
        }
    }

    private void mustBeGoal(int goal) {
        if (!told.hasGoal(goal)) {
            throw new NoSuchElementException("no such goal");
        }
    }

    private void mustBeAddress(int address) {
        if (!told.hasAddress(address)) {
            throw new NoSuchElementException("no such address");
        }
    }

    private boolean wasSeen(int address) {
        return told.hasAddress(address) && ((sight.addressesEverywhere() >> address) & 1) == 1;
    }

    private int refuseAct() {
        status[REFUSED_ACTS]++;
        return NONE;
    }

    private boolean goesBy(int port, int goal, int link) {
        walk.takeAll(port, goal);
        return ((walk.links >> link) & 1) == 1;
    }

    private int hiddenAt(int goal, int h) {
        return told.placesAt(goal, h) & ~now.seenAt(goal, h);
    }

    private int hiddenInAll(int goal) {
        int hidden = 0;
        for (int h = 1; h <= HOPS_MOST; h++) {
            hidden += Integer.bitCount(hiddenAt(goal, h));
        }
        return hidden;
    }

    /** The bytes that were fed and not yet read. */
    private static final class Tape {
        final byte[] bytes = new byte[TAPE_MOST];
        int length = 0;

        boolean hasRoomFor(int more) {
            return length + more <= TAPE_MOST;
        }

        void append(int number) {
            if (!hasRoomFor(4)) {
                return;
            }
            for (int shift = 24; shift >= 0; shift -= 8) {
                bytes[length] = (byte) (number >> shift);
                length++;
            }
        }
    }

    /** What a text tells, and what follows from it alone. */
    private static final class Net {
        final int[] kind = new int[ROUTERS_MOST];
        final int[] salt = new int[ROUTERS_MOST];
        final int[] pace = new int[ROUTERS_MOST];
        final int[] manner = new int[ROUTERS_MOST];
        final int[] from = new int[LINKS_MOST];
        final int[] to = new int[LINKS_MOST];
        final int[] goal = new int[GOALS_MOST];
        int routers = 0;
        int links = 0;
        int goals = 0;
        int loss = LOSS_UNTOLD;

        /** Of each router (bits) whom one can come to from it, itself among them. */
        private final int[] reach = new int[ROUTERS_MOST];
        /** Of each goal and router how many branches it has, and in rows of four which. */
        private final int[] branches = new int[GOALS_MOST * ROUTERS_MOST];
        private final int[] branch = new int[GOALS_MOST * ROUTERS_MOST * LINKS_FROM_ONE];
        private final int[] tally = new int[ROUTERS_MOST];

        void empty() {
            routers = 0;
            links = 0;
            goals = 0;
            loss = LOSS_UNTOLD;
        }

        void copyFrom(Net other) {
            System.arraycopy(other.kind, 0, kind, 0, ROUTERS_MOST);
            System.arraycopy(other.salt, 0, salt, 0, ROUTERS_MOST);
            System.arraycopy(other.pace, 0, pace, 0, ROUTERS_MOST);
            System.arraycopy(other.manner, 0, manner, 0, ROUTERS_MOST);
            System.arraycopy(other.from, 0, from, 0, LINKS_MOST);
            System.arraycopy(other.to, 0, to, 0, LINKS_MOST);
            System.arraycopy(other.goal, 0, goal, 0, GOALS_MOST);
            routers = other.routers;
            links = other.links;
            goals = other.goals;
            loss = other.loss;
        }

        boolean hasRouter(int router) {
            return router >= 0 && router < routers;
        }

        boolean hasLink(int link) {
            return link >= 0 && link < links;
        }

        boolean hasGoal(int which) {
            return which >= 0 && which < goals;
        }

        boolean hasAddress(int address) {
            return routers > 0 && address >= 0 && address <= links;
        }

        int routerOf(int address) {
            return address <= 0 || address > links ? 0 : to[address - 1];
        }

        int goalAt(int router) {
            for (int i = 0; i < goals; i++) {
                if (goal[i] == router) {
                    return i;
                }
            }
            return NONE;
        }

        int linksFrom(int router) {
            int bits = 0;
            for (int i = 0; i < links; i++) {
                if (from[i] == router) {
                    bits |= 1 << i;
                }
            }
            return bits;
        }

        boolean hasLinkBetween(int one, int other) {
            for (int i = 0; i < links; i++) {
                if (from[i] == one && to[i] == other) {
                    return true;
                }
            }
            return false;
        }

        void findBranches() {
            findReach();
            for (int g = 0; g < goals; g++) {
                for (int r = 0; r < routers; r++) {
                    branches[g * ROUTERS_MOST + r] = 0;
                }
                for (int i = 0; i < links; i++) {
                    if (comesTo(to[i], goal[g])) {
                        addBranch(g * ROUTERS_MOST + from[i], i);
                    }
                }
            }
        }

        private void addBranch(int row, int link) {
            if (branches[row] < LINKS_FROM_ONE) {
                branch[row * LINKS_FROM_ONE + branches[row]] = link;
                branches[row]++;
            }
        }

        /** Links go to greater numbers only, so whoever lies behind is known first. */
        private void findReach() {
            for (int r = routers - 1; r >= 0; r--) {
                reach[r] = 1 << r;
                for (int i = 0; i < links; i++) {
                    if (from[i] == r) {
                        reach[r] |= reach[to[i]];
                    }
                }
            }
        }

        boolean comesTo(int router, int other) {
            return ((reach[router] >> other) & 1) == 1;
        }

        int branchesOf(int router, int which) {
            return branches[which * ROUTERS_MOST + router];
        }

        int branchOf(int router, int which, int i) {
            return branch[(which * ROUTERS_MOST + router) * LINKS_FROM_ONE + i];
        }

        int waysTo(int which) {
            for (int r = routers - 1; r >= 0; r--) {
                int ways = r == goal[which] ? 1 : 0;
                for (int i = 0; i < branchesOf(r, which); i++) {
                    ways += tally[to[branchOf(r, which, i)]];
                }
                tally[r] = ways;
            }
            return tally[0];
        }

        int longestTo(int which) {
            for (int r = routers - 1; r >= 0; r--) {
                int longest = r == goal[which] ? 1 : 0;
                for (int i = 0; i < branchesOf(r, which); i++) {
                    longest = Math.max(longest, tally[to[branchOf(r, which, i)]] + 1);
                }
                tally[r] = longest;
            }
            return tally[0];
        }

        int shortestTo(int which) {
            for (int r = routers - 1; r >= 0; r--) {
                int shortest = r == goal[which] ? 1 : 0;
                for (int i = 0; i < branchesOf(r, which); i++) {
                    int length = tally[to[branchOf(r, which, i)]] + 1;
                    shortest = shortest == 0 ? length : Math.min(shortest, length);
                }
                tally[r] = shortest;
            }
            return tally[0];
        }

        int placesAt(int which, int h) {
            int places = comesTo(0, goal[which]) ? 1 : 0;
            for (int step = 1; step < h; step++) {
                places = placesBehind(which, places);
            }
            return places;
        }

        private int placesBehind(int which, int places) {
            int behind = 0;
            for (int address = 0; address <= links; address++) {
                if (((places >> address) & 1) == 1) {
                    int router = routerOf(address);
                    for (int i = 0; i < branchesOf(router, which); i++) {
                        behind |= 1 << (branchOf(router, which, i) + 1);
                    }
                }
            }
            return behind;
        }

        int linksOnWaysTo(int which) {
            int bits = 0;
            for (int i = 0; i < links; i++) {
                if (comesTo(0, from[i]) && comesTo(to[i], goal[which])) {
                    bits |= 1 << i;
                }
            }
            return bits;
        }

        int whyLoopAt(int router) {
            for (int i = 0; i < links; i++) {
                if (to[i] == router && manner[from[i]] == LATE) {
                    return 1;
                }
            }
            for (int r = 0; r < routers; r++) {
                if (kind[r] == BY_PACKET && comesTo(0, r) && comesTo(r, router)) {
                    return 2;
                }
            }
            return 3;
        }
    }

    /** Reads a text token by token into a net; at the first fault it stops. */
    private static final class Reader {
        private static final int END = 0;
        private static final int WORD = 1;
        private static final int NUMBER = 2;
        private static final int SIGN = 3;
        private static final int STRANGE = 4;

        int place = NONE;
        private int code = 0;
        private final Net net;
        private final byte[] text;
        private int length = 0;
        private int token = END;
        private int start = 0;
        private int end = 0;
        private boolean lossTold = false;

        Reader(Net net, Tape tape) {
            this.net = net;
            this.text = tape.bytes;
        }

        /** Answers by the fault; 0 without. */
        int readText(int n) {
            length = Math.min(n, text.length);
            code = 0;
            place = NONE;
            end = 0;
            lossTold = false;
            net.empty();
            step();
            for (int i = 0; i < TAPE_MOST && code == 0 && token != END; i++) {
                readClause();
            }
            return code;
        }

        private void readClause() {
            if (isWord("router")) {
                readRouter();
            } else if (isWord("link")) {
                readLink();
            } else if (isWord("to")) {
                readGoal();
            } else if (isWord("loss")) {
                readLoss();
            } else {
                fail(1);
            }
            if (code == 0 && token != SIGN) {
                fail(1);
            }
            step();
        }

        private void readRouter() {
            if (net.routers == ROUTERS_MOST) {
                fail(2);
                return;
            }
            step();
            int kind = readKind();
            int salt = readNumber(0, SALTS - 1);
            int pace = readNumber(1, 60);
            int manner = readManner();
            if (code == 0) {
                int router = net.routers;
                net.kind[router] = kind;
                net.salt[router] = salt;
                net.pace[router] = pace;
                net.manner[router] = manner;
                net.routers++;
            }
        }

        private int readKind() {
            int kind = NONE;
            if (isWord("one")) {
                kind = ONE;
            } else if (isWord("flow")) {
                kind = BY_FLOW;
            } else if (isWord("packet")) {
                kind = BY_PACKET;
            } else if (isWord("goal")) {
                kind = BY_GOAL;
            } else {
                fail(1);
            }
            step();
            return kind;
        }

        private int readManner() {
            int manner = 0;
            if (isWord("mute")) {
                manner = MUTE;
            } else if (isWord("late")) {
                manner = LATE;
            }
            if (manner != 0) {
                step();
            }
            return manner;
        }

        private void readLink() {
            if (net.links == LINKS_MOST) {
                fail(2);
                return;
            }
            step();
            int from = routerHere();
            if (code == 0 && Integer.bitCount(net.linksFrom(from)) == LINKS_FROM_ONE) {
                fail(2);
            }
            step();
            int to = routerHere();
            if (code == 0 && (to <= from || net.hasLinkBetween(from, to))) {
                fail(5);
            }
            step();
            if (code == 0) {
                net.from[net.links] = from;
                net.to[net.links] = to;
                net.links++;
            }
        }

        private void readGoal() {
            if (net.goals == GOALS_MOST) {
                fail(2);
                return;
            }
            step();
            int router = routerHere();
            if (code == 0 && net.goalAt(router) != NONE) {
                fail(4);
            }
            step();
            if (code == 0) {
                net.goal[net.goals] = router;
                net.goals++;
            }
        }

        private void readLoss() {
            if (lossTold) {
                fail(4);
                return;
            }
            step();
            int hundredths = readNumber(1, LOSS_MOST);
            if (code == 0) {
                net.loss = hundredths;
                lossTold = true;
            }
        }

        private int readNumber(int least, int most) {
            int number = numberHere(least, most);
            step();
            return number;
        }

        private int routerHere() {
            int router = numberHere(0, ROUTERS_MOST - 1);
            if (code == 0 && router >= net.routers) {
                fail(3);
            }
            return router;
        }

        private int numberHere(int least, int most) {
            if (token != NUMBER) {
                fail(1);
                return least;
            }
            if (end - start > 2) {
                fail(2);
                return least;
            }
            int number = 0;
            for (int i = start; i < end; i++) {
                number = number * 10 + (text[i] - '0');
            }
            if (number < least || number > most) {
                fail(2);
                return least;
            }
            return number;
        }

        /** Only the first fault counts. */
        private void fail(int fault) {
            if (code == 0) {
                code = fault;
                place = start;
            }
        }

        private void step() {
            if (code != 0) {
                return;
            }
            start = end;
            while (start < length && (text[start] == 32 || text[start] == 10)) {
                start++;
            }
            end = start;
            if (start >= length) {
                token = END;
            } else if (isLetter(text[start])) {
                token = WORD;
                while (end < length && isLetter(text[end])) {
                    end++;
                }
            } else if (isDigit(text[start])) {
                token = NUMBER;
                while (end < length && isDigit(text[end])) {
                    end++;
                }
            } else {
                token = text[start] == ';' ? SIGN : STRANGE;
                end++;
            }
        }

        private static boolean isLetter(int sign) {
            return sign >= 'a' && sign <= 'z';
        }

        private static boolean isDigit(int sign) {
            return sign >= '0' && sign <= '9';
        }

        private boolean isWord(String word) {
            if (token != WORD || end - start != word.length()) {
                return false;
            }
            for (int i = start; i < end; i++) {
                if (text[i] != word.charAt(i - start)) {
                    return false;
                }
            }
            return true;
        }
    }

    /** All that acts change. */
    private static final class Condition {
        private static final int SEEN_BITS = 5;
        private static final int SEEN_MASK = 31;

        /** Of each flow one number: at each hop five bits, the address and 1, or 0. */
        private final long[] seen = new long[GOALS_MOST * PORTS];
        private final int[] sent = new int[GOALS_MOST * HOPS_MOST];
        final int[] turn = new int[ROUTERS_MOST];
        final int[] counter = new int[ROUTERS_MOST];
        int loss = LOSS_UNTOLD;
        int opened = 0;
        int open = 0;
        int deep = 0;
        int muted = 0;
        int lost = 0;

        void beginAnew(int lossTold) {
            forgetAllSeen();
            for (int r = 0; r < ROUTERS_MOST; r++) {
                turn[r] = 0;
                counter[r] = 0;
            }
            loss = lossTold;
            opened = 0;
            open = 0;
            deep = 0;
            muted = 0;
            lost = 0;
        }

        void copyFrom(Condition other) {
            System.arraycopy(other.seen, 0, seen, 0, GOALS_MOST * PORTS);
            System.arraycopy(other.sent, 0, sent, 0, GOALS_MOST * HOPS_MOST);
            System.arraycopy(other.turn, 0, turn, 0, ROUTERS_MOST);
            System.arraycopy(other.counter, 0, counter, 0, ROUTERS_MOST);
            loss = other.loss;
            opened = other.opened;
            open = other.open;
            deep = other.deep;
            muted = other.muted;
            lost = other.lost;
        }

        void forgetAllSeen() {
            for (int i = 0; i < GOALS_MOST * PORTS; i++) {
                seen[i] = 0L;
            }
            for (int i = 0; i < GOALS_MOST * HOPS_MOST; i++) {
                sent[i] = 0;
            }
        }

        int seenBy(int port, int goal, int h) {
            long all = seen[goal * PORTS + port];
            return (int) (all >>> (SEEN_BITS * (h - 1)) & SEEN_MASK) - 1;
        }

        /** What any port has seen (bits). Sweeps ask it for every probe, so the shift is worked out once. */
        int seenAt(int goal, int h) {
            int shift = SEEN_BITS * (h - 1);
            int bits = 0;
            for (int port = 0; port < PORTS; port++) {
                bits |= 1 << (int) (seen[goal * PORTS + port] >>> shift & SEEN_MASK);
            }
            return bits >>> 1;
        }

        void see(int port, int goal, int h, int address) {
            int shift = SEEN_BITS * (h - 1);
            long others = seen[goal * PORTS + port] & ~((long) SEEN_MASK << shift);
            seen[goal * PORTS + port] = others | (long) (address + 1) << shift;
        }

        int sentAt(int goal, int h) {
            return sent[goal * HOPS_MOST + h - 1];
        }

        void countSent(int goal, int h) {
            sent[goal * HOPS_MOST + h - 1]++;
        }

        int sentInAll() {
            int all = 0;
            for (int i = 0; i < GOALS_MOST * HOPS_MOST; i++) {
                all += sent[i];
            }
            return all;
        }

        int countersInAll() {
            int all = 0;
            for (int r = 0; r < ROUTERS_MOST; r++) {
                all += counter[r];
            }
            return all;
        }

        void openWindow() {
            opened++;
            open++;
            deep = Math.max(deep, open);
        }

        void shutWindow() {
            open--;
        }
    }

    /** How much it is that a branch was missed. */
    private static final class Odds {
        static final long WHOLE = 1000000000000L;
        static final int PROBES_MOST = 60;
        static final int BRANCHES_MOST = 5;

        private final long[] met = new long[ADDRESSES_MOST + 2];
        private final int[] enough = new int[ENOUGH_MOST];
        private int lossOfEnough = 0;

        /** More probes may have been sent than the face asks for; once all have met all, none of them matters. */
        long missed(int probes, int among) {
            if (among < 1 || among >= met.length) {
                return WHOLE;
            }
            begin(among);
            for (int i = 0; i < probes && met[among] < WHOLE; i++) {
                sendNext(among);
            }
            return WHOLE - met[among];
        }

        private void begin(int among) {
            met[0] = WHOLE;
            for (int j = 1; j <= among; j++) {
                met[j] = 0L;
            }
        }

        private void sendNext(int among) {
            if (among < 1 || among >= met.length) {
                return;
            }
            for (int j = among - 1; j >= 0; j--) {
                long stays = met[j] * j / among;
                met[j + 1] += met[j] - stays;
                met[j] = stays;
            }
        }

        int enoughFor(int k, int loss) {
            if (k < 1 || k > ENOUGH_MOST) {
                return NONE;
            }
            if (loss != lossOfEnough) {
                for (int i = 1; i <= ENOUGH_MOST; i++) {
                    enough[i - 1] = leastFor(i + 1, loss * (WHOLE / 100));
                }
                lossOfEnough = loss;
            }
            return enough[k - 1];
        }

        private int leastFor(int among, long allowed) {
            begin(among);
            for (int n = 1; n <= PROBES_MOST; n++) {
                sendNext(among);
                if (WHOLE - met[among] < allowed) {
                    return n;
                }
            }
            return NONE;
        }
    }

    /** What follows from what was seen. */
    private static final class Sight {
        private final Net net;
        private final Condition now;
        /** Of each address (bits) where edges go from it: of the hop that was drawn last. */
        final int[] edgesFrom = new int[ADDRESSES_MOST];
        final int[] diamondFirst = new int[HOPS_MOST];
        final int[] diamondLast = new int[HOPS_MOST];

        Sight(Net net, Condition now) {
            this.net = net;
            this.now = now;
        }

        private int widthAt(int goal, int h) {
            return Integer.bitCount(now.seenAt(goal, h));
        }

        int addressesEverywhere() {
            int bits = 0;
            for (int goal = 0; goal < net.goals; goal++) {
                for (int h = 1; h <= HOPS_MOST; h++) {
                    bits |= now.seenAt(goal, h);
                }
            }
            return bits;
        }

        void drawEdges(int goal, int h) {
            for (int address = 0; address < ADDRESSES_MOST; address++) {
                edgesFrom[address] = 0;
            }
            if (h >= HOPS_MOST) {
                return;
            }
            for (int port = 0; port < PORTS; port++) {
                int from = now.seenBy(port, goal, h);
                int to = now.seenBy(port, goal, h + 1);
                if (from != NONE && to != NONE && from != to) {
                    edgesFrom[from] |= 1 << to;
                }
            }
        }

        int edgesAt(int goal, int h) {
            drawEdges(goal, h);
            int edges = 0;
            for (int address = 0; address < ADDRESSES_MOST; address++) {
                edges += Integer.bitCount(edgesFrom[address]);
            }
            return edges;
        }

        int edgesInAll() {
            int edges = 0;
            for (int goal = 0; goal < net.goals; goal++) {
                for (int h = 1; h < HOPS_MOST; h++) {
                    edges += edgesAt(goal, h);
                }
            }
            return edges;
        }

        int findDiamonds(int goal) {
            int diamonds = 0;
            int first = NONE;
            for (int h = 1; h <= HOPS_MOST; h++) {
                int width = widthAt(goal, h);
                if (width == 1 && first != NONE && h - first > 1) {
                    diamondFirst[diamonds] = first;
                    diamondLast[diamonds] = h;
                    diamonds++;
                }
                if (width == 1) {
                    first = h;
                } else if (width == 0) {
                    first = NONE;
                }
            }
            return diamonds;
        }

        int widthOf(int goal, int first, int last) {
            int widest = 0;
            for (int h = first; h <= last; h++) {
                widest = Math.max(widest, widthAt(goal, h));
            }
            return widest;
        }

        int skewOf(int goal, int first, int last) {
            int skew = 0;
            for (int h = first; h < last; h++) {
                skew = Math.max(skew, skewAt(goal, h));
            }
            return skew;
        }

        private int skewAt(int goal, int h) {
            int addresses = now.seenAt(goal, h);
            drawEdges(goal, h);
            int greatest = 0;
            int least = ADDRESSES_MOST;
            for (int address = 0; address < ADDRESSES_MOST; address++) {
                if (((addresses >> address) & 1) == 1) {
                    int edges = Integer.bitCount(edgesFrom[address]);
                    greatest = Math.max(greatest, edges);
                    least = Math.min(least, edges);
                }
            }
            return Math.max(greatest - least, 0);
        }

        int loopOf(int port, int goal) {
            for (int h = 1; h < HOPS_MOST; h++) {
                int address = now.seenBy(port, goal, h);
                boolean again = address != NONE && address == now.seenBy(port, goal, h + 1);
                if (again && net.routerOf(address) != net.goal[goal]) {
                    return h;
                }
            }
            return NONE;
        }
    }

    /** The way that a probe would go as all is; it changes nothing. */
    private static final class Walk {
        private final Net net;
        private final Condition now;
        private int swayed = NONE;
        private int swayedTo = 0;

        /** Where it ended, and the address that this was come to by. */
        int router = 0;
        int address = 0;
        /** The address of the router ahead of the last one. */
        int ahead = NONE;
        /** The routers that it went on from, and the links that it went by (bits). */
        int left = 0;
        int links = 0;
        boolean lost = false;

        Walk(Net net, Condition now) {
            this.net = net;
            this.now = now;
        }

        /** From now on one router goes on by one branch, whatever its kind. */
        void sway(int which, int branch) {
            swayed = which;
            swayedTo = branch;
        }

        void swayNone() {
            swayed = NONE;
        }

        void takeAll(int port, int goal) {
            take(port, goal, BEYOND_ALL);
        }

        void take(int port, int goal, int hops) {
            router = 0;
            address = 0;
            ahead = NONE;
            left = 0;
            links = 0;
            lost = false;
            int hopsLeft = hops;
            // A link leads to a greater number, so there are fewer steps than routers.
            for (int i = 0; i < ROUTERS_MOST; i++) {
                if (hopsLeft <= 0 || router == net.goal[goal]) {
                    return;
                }
                hopsLeft--;
                if (hopsLeft == 0 && net.manner[router] != LATE) {
                    return;
                }
                goOn(port, goal);
                if (lost) {
                    return;
                }
            }
        }

        private void goOn(int port, int goal) {
            int n = net.branchesOf(router, goal);
            if (n <= 0) {
                lost = true;
                ahead = NONE;
                return;
            }
            int choice = choiceBy(net.kind[router], net.salt[router], now.turn[router], port, goal, n);
            int link = net.branchOf(router, goal, router == swayed ? swayedTo : choice);
            ahead = address;
            left |= 1 << router;
            links |= 1 << link;
            address = link + 1;
            router = net.to[link];
        }

        /** Which of n branches is gone by. */
        static int choiceBy(int kind, int salt, int turn, int port, int goal, int n) {
            if (n <= 0) {
                return 0;
            }
            switch (kind) {
                case BY_FLOW: return (7 * port + 13 * goal + salt) % n;
                case BY_PACKET: return turn % n;
                case BY_GOAL: return (13 * goal + salt) % n;
                default: return 0;
            }
        }

        /** The same for a number that holds a kind and a salt. */
        static int choiceByCode(int code, int port, int goal, int n) {
            return choiceBy(code / SALTS, code % SALTS, 0, port, goal, n);
        }

        boolean isAnswered() {
            return !lost && (net.manner[router] != MUTE || net.goalAt(router) != NONE);
        }
    }

    /** Sends probes and pings: here the condition changes. */
    private static final class Sender {
        private static final int TWIN_ROUNDS = 3;
        private static final int TWIN_STEP_MOST = 120;

        private final Net net;
        private final Condition now;
        private final Walk walk;
        private final Odds odds;
        int seed = 0;

        Sender(Net net, Condition now, Walk walk, Odds odds) {
            this.net = net;
            this.now = now;
            this.walk = walk;
            this.odds = odds;
        }

        /** Answers by the address; NONE if nobody answers. */
        int sendOne(int port, int goal, int h) {
            now.openWindow();
            now.countSent(goal, h);
            walk.take(port, goal, h);
            turnWhoShareByPackets();
            int answer = NONE;
            if (walk.lost) {
                now.lost++;
            } else if (walk.isAnswered()) {
                answer = walk.address;
                stepCounter(walk.router);
                now.see(port, goal, h, answer);
            } else {
                now.muted++;
            }
            now.shutWindow();
            return answer;
        }

        private void turnWhoShareByPackets() {
            for (int r = 0; r < net.routers; r++) {
                if (((walk.left >> r) & 1) == 1 && net.kind[r] == BY_PACKET) {
                    now.turn[r] = (now.turn[r] + 1) % TURNS;
                }
            }
        }

        private int stepCounter(int router) {
            now.counter[router] = (now.counter[router] + net.pace[router]) % COUNTER_WRAP;
            return now.counter[router];
        }

        int pingOne(int address) {
            return stepCounter(net.routerOf(address));
        }

        boolean pingByTurns(int address, int other) {
            boolean one = true;
            int before = NONE;
            for (int i = 0; i < 2 * TWIN_ROUNDS; i++) {
                int counter = pingOne(i % 2 == 0 ? address : other);
                int more = (counter - before + COUNTER_WRAP) % COUNTER_WRAP;
                if (before != NONE && (more < 1 || more > TWIN_STEP_MOST)) {
                    one = false;
                }
                before = counter;
            }
            return one;
        }

        int sendSweep(int goal, int h) {
            now.openWindow();
            int sent = 0;
            while (sent < PORTS && sent < enoughAt(goal, h)) {
                sendOne(sent, goal, h);
                sent++;
            }
            now.shutWindow();
            return sent;
        }

        private int enoughAt(int goal, int h) {
            int addresses = Integer.bitCount(now.seenAt(goal, h));
            int k = Math.max(1, Math.min(ENOUGH_MOST, addresses));
            int enough = odds.enoughFor(k, now.loss);
            return enough == NONE ? PORTS : enough;
        }

        int sendTrace(int port, int goal) {
            now.openWindow();
            int sent = 0;
            boolean reached = false;
            while (sent < HOPS_MOST && !reached) {
                sent++;
                int answer = sendOne(port, goal, sent);
                reached = answer != NONE && net.routerOf(answer) == net.goal[goal];
            }
            now.shutWindow();
            return sent;
        }

        /** Answers by how many probes it sends. */
        int passYear() {
            int deed = draw(4);
            if (net.goals <= 0) {
                return 0;
            }
            if (deed == 2) {
                int goal = draw(net.goals);
                return sendSweep(goal, draw(HOPS_MOST) + 1);
            }
            int port = draw(PORTS);
            int goal = draw(net.goals);
            if (deed == 3) {
                return sendTrace(port, goal);
            }
            sendOne(port, goal, draw(HOPS_MOST) + 1);
            return 1;
        }

        private int draw(int n) {
            seed = seed * 1103515245 + 12345;
            return n <= 0 ? 0 : ((seed >> 16) & 32767) % n;
        }
    }

    /** What is noted, and what it tells of a router. */
    private static final class Notebook {
        private final Net net;
        private final Walk walk;
        private final int[] port = new int[NOTES_MOST];
        private final int[] goal = new int[NOTES_MOST];
        private final int[] hops = new int[NOTES_MOST];
        private final int[] address = new int[NOTES_MOST];
        int size = 0;
        int bestPort = NONE;
        int bestUnlike = 0;

        Notebook(Net net, Walk walk) {
            this.net = net;
            this.walk = walk;
        }

        void write(int aPort, int aGoal, int h, int anAddress) {
            if (size >= NOTES_MOST) {
                return;
            }
            port[size] = aPort;
            goal[size] = aGoal;
            hops[size] = h;
            address[size] = anAddress;
            size++;
        }

        void copyFrom(Notebook other) {
            System.arraycopy(other.port, 0, port, 0, NOTES_MOST);
            System.arraycopy(other.goal, 0, goal, 0, NOTES_MOST);
            System.arraycopy(other.hops, 0, hops, 0, NOTES_MOST);
            System.arraycopy(other.address, 0, address, 0, NOTES_MOST);
            size = other.size;
        }

        /** Bit 16 times the kind, and the salt, of each by which all that is noted would be so. */
        long fitting(int router) {
            long fitting = 0L;
            for (int kind = ONE; kind <= BY_GOAL; kind++) {
                if (kind != BY_PACKET) {
                    fitting |= 65535L << (SALTS * kind);
                }
            }
            for (int i = 0; i < size; i++) {
                fitting &= fittingNote(router, i);
            }
            return fitting;
        }

        /** A kind and a salt only choose a branch, so each branch is walked once. */
        private long fittingNote(int router, int i) {
            int n = net.branchesOf(router, goal[i]);
            int good = 0;
            for (int branch = 0; branch < Math.max(1, n); branch++) {
                walk.sway(router, branch);
                walk.take(port[i], goal[i], hops[i]);
                if (walk.isAnswered() && walk.address == address[i]) {
                    good |= 1 << branch;
                }
            }
            walk.swayNone();
            long fitting = 0L;
            for (int code = 0; code < CODES; code++) {
                int branch = Walk.choiceByCode(code, port[i], goal[i], n);
                if (((good >> branch) & 1) == 1) {
                    fitting |= 1L << code;
                }
            }
            return fitting;
        }

        void lookNext(int router, int aGoal) {
            bestPort = NONE;
            bestUnlike = 0;
            long fitting = fitting(router);
            for (int aPort = 0; aPort < PORTS && fitting != 0L; aPort++) {
                int unlike = unlikeBy(fitting, router, aPort, aGoal);
                if (unlike > bestUnlike) {
                    bestUnlike = unlike;
                    bestPort = aPort;
                }
            }
        }

        private int unlikeBy(long fitting, int router, int aPort, int aGoal) {
            int n = net.branchesOf(router, aGoal);
            int branches = 0;
            for (int code = 0; code < CODES; code++) {
                if (((fitting >> code) & 1L) == 1L) {
                    branches |= 1 << Walk.choiceByCode(code, aPort, aGoal, n);
                }
            }
            int unlike = 0;
            for (int branch = 0; branch < LINKS_FROM_ONE; branch++) {
                if (((branches >> branch) & 1) == 1) {
                    walk.sway(router, branch);
                    walk.takeAll(aPort, aGoal);
                    unlike |= 1 << (walk.ahead + 1);
                }
            }
            walk.swayNone();
            return Integer.bitCount(unlike);
        }
    }

    /** The condition ahead of each act that is kept, the latest ones. */
    private static final class History {
        private final Condition[] ahead = new Condition[ACTS_MOST];
        private int oldest = 0;
        int size = 0;

        void keep(Condition now) {
            if (size >= ACTS_MOST) {
                oldest = (oldest + 1) % ACTS_MOST;
                size = ACTS_MOST - 1;
            }
            rowOf(size).copyFrom(now);
            size++;
        }

        void takeBack(Condition now) {
            if (size <= 0) {
                return;
            }
            size--;
            now.copyFrom(rowOf(size));
        }

        void copyFrom(History other) {
            size = 0;
            for (int i = 0; i < other.size; i++) {
                keep(other.rowOf(i));
            }
        }

        /** Rows are made when first needed and then used again. */
        private Condition rowOf(int i) {
            int place = (oldest + i) % ACTS_MOST;
            Condition row = ahead[place];
            if (row == null) {
                row = new Condition();
                ahead[place] = row;
            }
            return row;
        }
    }
}
