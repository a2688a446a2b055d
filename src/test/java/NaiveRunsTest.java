import java.math.BigInteger;
import java.util.ArrayDeque;
import java.util.ArrayList;
import java.util.Arrays;
import java.util.Deque;
import java.util.HashSet;
import java.util.List;
import java.util.NoSuchElementException;
import java.util.Random;
import java.util.Set;
import java.util.TreeSet;
import java.util.function.LongSupplier;
import java.util.regex.Matcher;
import java.util.regex.Pattern;

/** Long runs of calls by seeds, each answer against a model that is written as plainly as the document. */
public final class NaiveRunsTest {
    private static final long ILLEGAL = Long.MIN_VALUE;
    private static final long NO_SUCH = Long.MIN_VALUE + 1;
    private static final int RUNS = 2500;
    /** The document promises nothing of an object behind its 512th call. */
    private static final int CALLS_OF_ONE = 512;
    private static int wrong = 0;
    private static long calls = 0;
    private static final Set<String> met = new TreeSet<>();

    public static void main(String[] args) {
        for (int seed = 0; seed < RUNS && wrong < 20; seed++) {
            new Run(seed).go();
        }
        System.out.println(calls + " calls in " + RUNS + " runs, " + wrong + " answers wrong");
        for (int fault = 0; fault <= 5; fault++) {
            if (!met.contains("net " + fault)) {
                System.out.println("no text came to fault " + fault);
                wrong++;
            }
        }
        for (String what : new String[] {"loop 1", "loop 2", "diamond", "skew", "lost", "muted", "wrapped turn"}) {
            if (!met.contains(what)) {
                System.out.println("no run came to: " + what);
                wrong++;
            }
        }
        if (wrong != 0) {
            System.exit(1);
        }
    }

    private static long answer(LongSupplier call) {
        try {
            return call.getAsLong();
        } catch (NoSuchElementException e) {
            return NO_SUCH;
        } catch (IllegalArgumentException e) {
            return ILLEGAL;
        }
    }

    private static final class Run {
        final int seed;
        final Random random;
        final PathProber real = new PathProber();
        final Naive naive = new Naive();
        final List<String> trail = new ArrayList<>();
        int mine = 0;

        Run(int seed) {
            this.seed = seed;
            this.random = new Random(seed);
        }

        boolean same(String call, LongSupplier got, LongSupplier want) {
            if (mine >= CALLS_OF_ONE) {
                return true;
            }
            mine++;
            calls++;
            long g = answer(got);
            long w = answer(want);
            if (g != w) {
                wrong++;
                System.out.println("seed " + seed + ": " + call + " answered " + g + ", due is " + w);
                for (int i = Math.max(0, trail.size() - 12); i < trail.size(); i++) {
                    System.out.println("    after " + trail.get(i));
                }
                System.out.println("    text " + naive.lastText);
            }
            trail.add(call + " " + w);
            return g == w;
        }

        void go() {
            int acts = 20 + random.nextInt(150);
            if (random.nextInt(20) != 0) {
                tell(Texts.good(random));
            }
            for (int i = 0; i < acts && wrong < 20; i++) {
                step();
                if (random.nextInt(25) == 0) {
                    lookAtAll();
                }
            }
            lookAtAll();
        }

        /** There are more questions than calls, so of those to all things only some are asked. */
        void perhaps(String call, LongSupplier got, LongSupplier want) {
            if (random.nextInt(6) == 0) {
                same(call, got, want);
            }
        }

        void step() {
            int r = random.nextInt(100);
            if (r < 22) {
                int p = port(), g = goal(), h = hops();
                same("probe " + p + " " + g + " " + h, () -> real.probe(p, g, h), () -> naive.probe(p, g, h));
            } else if (r < 30) {
                int g = goal(), h = hops();
                same("sweep " + g + " " + h, () -> real.sweep(g, h), () -> naive.sweep(g, h));
            } else if (r < 42) {
                int p = port(), g = goal();
                same("trace " + p + " " + g, () -> real.trace(p, g), () -> naive.trace(p, g));
            } else if (r < 47) {
                int a = address();
                same("ping " + a, () -> real.ping(a), () -> naive.ping(a));
            } else if (r < 53) {
                int a = address(), b = address();
                same("twins " + a + " " + b, () -> real.twins(a, b), () -> naive.twins(a, b));
            } else if (r < 56) {
                int l = random.nextInt(56) - 2;
                same("loss " + l, () -> real.loss(l), () -> naive.loss(l));
            } else if (r < 58) {
                same("clear", () -> real.clear(), () -> naive.clear());
            } else if (r < 66) {
                same("undo", () -> real.undo(), () -> naive.undo());
            } else if (r < 74) {
                noteSome();
            } else if (r < 75) {
                mine++;
                real.forget();
                naive.notes.clear();
                trail.add("forget");
            } else if (r < 80) {
                int s = random.nextInt(), n = random.nextInt(44) - 2, w = random.nextInt(5) - 1;
                same("years " + s + " " + n + " " + w, () -> real.years(s, n, w), () -> naive.years(s, n, w));
            } else if (r < 83) {
                mine++;
                real.image();
                naive.image();
                trail.add("image");
            } else if (r < 86) {
                same("restore", () -> real.restore() ? 1 : 0, () -> naive.restore() ? 1 : 0);
            } else if (r < 88) {
                tell(random.nextInt(3) == 0 ? Texts.good(random) : Texts.bad(random));
            } else {
                ask();
            }
        }

        /** Half of what is noted is what would be so, lest nothing fit. */
        void noteSome() {
            int p = port(), g = goal(), h = hops();
            int a = address();
            if (random.nextBoolean() && g >= 0 && g < naive.goals.size() && h >= 1 && p >= 0) {
                a = naive.walk(p, g, h, naive.kinds(), naive.salts(), naive.now.turn.clone()).answer;
            }
            int told = a;
            same("note " + p + " " + g + " " + h + " " + told,
                    () -> real.note(p, g, h, told), () -> naive.note(p, g, h, told));
        }

        void tell(String text) {
            int[] numbers = new int[5];
            byte[] bytes = text.getBytes(java.nio.charset.StandardCharsets.ISO_8859_1);
            int fed = 0;
            while (fed < bytes.length) {
                for (int i = 0; i < 20; i++) {
                    int b = fed + i < bytes.length ? bytes[fed + i] & 255 : 32;
                    numbers[i / 4] = numbers[i / 4] << 8 | b;
                }
                int[] n = numbers.clone();
                same("feed", () -> real.feed(n[0], n[1], n[2], n[3], n[4]), () -> naive.feed(n));
                fed += 20;
            }
            int length = random.nextInt(30) == 0 ? random.nextInt(720) - 10 : Math.min(bytes.length, 700);
            same("net " + length, () -> real.net(length), () -> naive.net(length));
            same("fault", () -> real.fault(), () -> naive.fault);
        }

        int port() {
            return random.nextInt(25) == 0 ? random.nextInt(40) - 4 : random.nextInt(32);
        }

        int goal() {
            return random.nextInt(25) == 0 || naive.goals.isEmpty() ? random.nextInt(6) - 1 : random.nextInt(naive.goals.size());
        }

        int hops() {
            return random.nextInt(25) == 0 ? random.nextInt(14) - 1 : 1 + random.nextInt(10);
        }

        int address() {
            return random.nextInt(25) == 0 ? random.nextInt(26) - 2 : random.nextInt(naive.links.size() + 1);
        }

        int router() {
            return random.nextInt(14) - 1;
        }

        void ask() {
            int p = port(), g = goal(), h = hops(), a = address(), b = address(), r = router();
            int l = random.nextInt(24) - 2, w = random.nextInt(11) - 2;
            same("router " + r + " " + w, () -> real.router(r, w), () -> naive.router(r, w));
            same("link " + l + " " + w, () -> real.link(l, w), () -> naive.link(l, w));
            same("seen " + p + " " + g + " " + h, () -> real.seen(p, g, h), () -> naive.seen(p, g, h));
            same("hop " + g + " " + h + " " + w, () -> real.hop(g, h, w), () -> naive.hop(g, h, w));
            same("sure " + g + " " + h, () -> real.sure(g, h), () -> naive.sure(g, h));
            same("edge " + g + " " + h + " " + a + " " + b, () -> real.edge(g, h, a, b), () -> naive.edge(g, h, a, b));
            same("diamond " + g + " " + (w - 1) + " " + p % 5, () -> real.diamond(g, w - 1, p % 5), () -> naive.diamond(g, w - 1, p % 5));
            same("loop " + p + " " + g + " " + w, () -> real.loop(p, g, w), () -> naive.loop(p, g, w));
            same("truth " + g + " " + w, () -> real.truth(g, w), () -> naive.truth(g, w));
            same("same " + a + " " + b, () -> real.same(a, b), () -> naive.same(a, b));
            same("port " + g + " " + l, () -> real.port(g, l), () -> naive.port(g, l));
            same("use " + g + " " + l, () -> real.use(g, l), () -> naive.use(g, l));
            same("cover " + g, () -> real.cover(g), () -> naive.cover(g));
            same("fits " + r + " " + w, () -> real.fits(r, w), () -> naive.fits(r, w));
            same("look " + r + " " + g + " " + w, () -> real.look(r, g, w), () -> naive.look(r, g, w));
            same("missing " + l * 3 + " " + w, () -> real.missing(l * 3, w), () -> naive.missing(l * 3, w));
        }

        void lookAtAll() {
            for (int i = -1; i <= 21; i++) {
                int what = i;
                perhaps("count " + what, () -> real.count(what), () -> naive.count(what));
            }
            for (int i = 0; i < naive.routers.size(); i++) {
                int r = i;
                for (int j = 0; j <= 7; j++) {
                    int what = j;
                    perhaps("router " + r + " " + what, () -> real.router(r, what), () -> naive.router(r, what));
                }
                perhaps("fits " + r, () -> real.fits(r, 0), () -> naive.fits(r, 0));
                perhaps("fits first " + r, () -> real.fits(r, 1), () -> naive.fits(r, 1));
            }
            for (int i = 0; i < naive.goals.size(); i++) {
                lookAtGoal(i);
            }
        }

        void lookAtGoal(int g) {
            for (int i = 1; i <= 10; i++) {
                int h = i;
                for (int j = 0; j <= 4; j++) {
                    int what = j;
                    perhaps("hop " + g + " " + h + " " + what, () -> real.hop(g, h, what), () -> naive.hop(g, h, what));
                }
                perhaps("sure " + g + " " + h, () -> real.sure(g, h), () -> naive.sure(g, h));
            }
            for (int i = 0; i < 32; i++) {
                int p = i;
                perhaps("loop " + p + " " + g, () -> real.loop(p, g, 0), () -> naive.loop(p, g, 0));
                perhaps("why " + p + " " + g, () -> real.loop(p, g, 1), () -> naive.loop(p, g, 1));
            }
            for (int i = -1; i < 6; i++) {
                int d = i;
                for (int j = 0; j <= 3; j++) {
                    int what = j;
                    perhaps("diamond " + g + " " + d + " " + what, () -> real.diamond(g, d, what), () -> naive.diamond(g, d, what));
                }
            }
            for (int i = 0; i <= 3; i++) {
                int what = i;
                perhaps("truth " + g + " " + what, () -> real.truth(g, what), () -> naive.truth(g, what));
            }
            for (int i = 0; i < naive.links.size(); i++) {
                int l = i;
                perhaps("port " + g + " " + l, () -> real.port(g, l), () -> naive.port(g, l));
                perhaps("use " + g + " " + l, () -> real.use(g, l), () -> naive.use(g, l));
            }
            perhaps("cover " + g, () -> real.cover(g), () -> naive.cover(g));
            int r = random.nextInt(Math.max(1, naive.routers.size()));
            perhaps("look " + r + " " + g, () -> real.look(r, g, 0), () -> naive.look(r, g, 0));
            perhaps("look unlike " + r + " " + g, () -> real.look(r, g, 1), () -> naive.look(r, g, 1));
        }
    }

    private static final class Texts {
        static final String[] KINDS = {"one", "flow", "packet", "goal"};

        static String good(Random random) {
            int routers = 1 + random.nextInt(12);
            StringBuilder text = new StringBuilder();
            boolean plain = random.nextInt(3) == 0;
            for (int i = 0; i < routers; i++) {
                int kind = plain ? random.nextInt(2) : random.nextInt(4);
                text.append("router ").append(KINDS[kind]).append(' ').append(random.nextInt(16)).append(' ');
                text.append(1 + random.nextInt(60));
                int manner = random.nextInt(8);
                text.append(manner == 0 ? " mute" : manner == 1 ? " late" : "").append(";");
            }
            addLinks(random, routers, text);
            List<Integer> goals = new ArrayList<>();
            int wanted = random.nextInt(10) == 0 ? 0 : 1 + random.nextInt(3);
            for (int i = 0; i < wanted; i++) {
                int router = random.nextInt(3) == 0 ? random.nextInt(routers) : routers - 1 - random.nextInt(Math.min(3, routers));
                if (!goals.contains(router)) {
                    goals.add(router);
                    text.append("to ").append(router).append(random.nextBoolean() ? ";" : " ;\n");
                }
            }
            if (random.nextInt(3) == 0) {
                text.append("loss ").append(1 + random.nextInt(50)).append(';');
            }
            return text.toString();
        }

        static void addLinks(Random random, int routers, StringBuilder text) {
            int wanted = random.nextInt(21);
            Set<Integer> told = new HashSet<>();
            int[] from = new int[12];
            for (int tries = 0; tries < 60 && told.size() < wanted && routers > 1; tries++) {
                int a = tries < routers && random.nextInt(4) != 0 ? tries : random.nextInt(routers);
                int b = a + 1 + random.nextInt(random.nextBoolean() ? 3 : 11);
                if (b < routers && from[a] < 4 && told.add(a * 12 + b)) {
                    from[a]++;
                    text.append("link ").append(a).append(' ').append(b).append(';');
                }
            }
        }

        /** A good one with a token or a byte that is changed, gone or doubled; or far too much of something. */
        static String bad(Random random) {
            StringBuilder text = new StringBuilder(good(random));
            int changes = 1 + random.nextInt(2);
            String[] bits = {"router", "link", "to", "loss", "one", "mute", "late", ";", " ", "0", "5", "12", "99", "100",
                "7", "x", "Z", "\t", "\n", "\u00e9", "routers", "loss 5;", "to 0;", "link 0 1;", "link 0 0;", "router one 3 7;", "goal"};
            for (int i = 0; i < changes && text.length() > 0; i++) {
                int at = random.nextInt(text.length());
                int kind = random.nextInt(5);
                if (kind == 0) {
                    text.deleteCharAt(at);
                } else if (kind == 1) {
                    text.setLength(at);
                } else if (kind == 2) {
                    text.insert(at, bits[random.nextInt(bits.length)]);
                } else if (kind == 3) {
                    int clause = text.indexOf(";", at);
                    text.insert(clause < 0 ? 0 : clause + 1, bits[random.nextInt(bits.length)]);
                } else {
                    text.append(" ").append(bits[random.nextInt(bits.length)]);
                }
            }
            return text.toString();
        }
    }

    private static final class State {
        int[][][] seen = new int[3][32][11];
        int[][] sent = new int[3][11];
        int[] turn = new int[12];
        int[] counter = new int[12];
        int loss = 5;
        int opened;
        int deep;
        int muted;
        int lost;

        State() {
            forget();
        }

        void forget() {
            for (int[][] goal : seen) {
                for (int[] row : goal) {
                    Arrays.fill(row, -1);
                }
            }
            sent = new int[3][11];
        }

        State copy() {
            State s = new State();
            for (int g = 0; g < 3; g++) {
                for (int p = 0; p < 32; p++) {
                    s.seen[g][p] = seen[g][p].clone();
                }
                s.sent[g] = sent[g].clone();
            }
            s.turn = turn.clone();
            s.counter = counter.clone();
            s.loss = loss;
            s.opened = opened;
            s.deep = deep;
            s.muted = muted;
            s.lost = lost;
            return s;
        }
    }

    private static final class Way {
        int answer = -1;
        boolean lost;
        boolean muted;
        int router;
        List<Integer> links = new ArrayList<>();
        List<Integer> addresses = new ArrayList<>();
    }

    private static final class Naive {
        String tape = "";
        String lastText = "";
        int fault = -1;
        List<int[]> routers = new ArrayList<>();
        List<int[]> links = new ArrayList<>();
        List<Integer> goals = new ArrayList<>();
        State now = new State();
        Deque<State> acts = new ArrayDeque<>();
        List<int[]> notes = new ArrayList<>();
        int[] status = new int[3];
        State imageNow;
        Deque<State> imageActs;
        List<int[]> imageNotes;
        int[] imageStatus;

        int feed(int[] numbers) {
            if (tape.length() > 680) {
                return -1;
            }
            StringBuilder more = new StringBuilder(tape);
            for (int n : numbers) {
                for (int i = 3; i >= 0; i--) {
                    more.append((char) (n >> 8 * i & 255));
                }
            }
            tape = more.toString();
            return tape.length();
        }

        int net(int n) {
            if (n < 0 || n > tape.length()) {
                throw new IllegalArgumentException();
            }
            String text = tape.substring(0, n);
            tape = "";
            Told told = new Told();
            int code = told.read(text);
            fault = code == 0 ? -1 : told.place;
            met.add("net " + code);
            if (code != 0) {
                status[0]++;
                return code;
            }
            lastText = text;
            routers = told.routers;
            links = told.links;
            goals = told.goals;
            now = new State();
            now.loss = told.loss < 0 ? 5 : told.loss;
            acts.clear();
            notes.clear();
            imageNow = null;
            return 0;
        }

        int count(int what) {
            switch (what) {
                case 0: return routers.size();
                case 1: return links.size();
                case 2: return goals.size();
                case 3: return now.loss;
                case 4: case 5: case 6: case 7: return enough(what - 3);
                case 8: return bits(everSeen());
                case 9: return sentInAll();
                case 10: return acts.size();
                case 11: return notes.size();
                case 12: return tape.length();
                case 13: case 14: case 15: return status[what - 13];
                case 16: return now.opened;
                case 17: return 0;
                case 18: return now.deep;
                case 19: return now.muted;
                case 20: return now.lost;
                default: throw new NoSuchElementException();
            }
        }

        int sentInAll() {
            int sum = 0;
            for (int[] row : now.sent) {
                for (int n : row) {
                    sum += n;
                }
            }
            return sum;
        }

        Set<Integer> everSeen() {
            Set<Integer> all = new TreeSet<>();
            for (int g = 0; g < goals.size(); g++) {
                for (int h = 1; h <= 10; h++) {
                    all.addAll(at(g, h));
                }
            }
            return all;
        }

        Set<Integer> at(int g, int h) {
            Set<Integer> all = new TreeSet<>();
            for (int p = 0; p < 32; p++) {
                if (now.seen[g][p][h] >= 0) {
                    all.add(now.seen[g][p][h]);
                }
            }
            return all;
        }

        static int bits(Set<Integer> set) {
            int bits = 0;
            for (int i : set) {
                bits += 1 << i;
            }
            return bits;
        }

        void must(boolean so) {
            if (!so) {
                throw new NoSuchElementException();
            }
        }

        boolean isGoal(int g) {
            return g >= 0 && g < goals.size();
        }

        boolean isAddress(int a) {
            return !routers.isEmpty() && a >= 0 && a <= links.size();
        }

        static boolean isHops(int h) {
            return h > 0 && h < 11;
        }

        static boolean isPort(int p) {
            return p > -1 && p < 32;
        }

        int owner(int a) {
            return a == 0 ? 0 : links.get(a - 1)[1];
        }

        int router(int r, int what) {
            must(r >= 0 && r < routers.size() && what >= 0 && what <= 7);
            if (what <= 3) {
                return routers.get(r)[what];
            }
            if (what == 4) {
                return now.turn[r];
            }
            if (what == 5) {
                return now.counter[r];
            }
            if (what == 7) {
                return goals.indexOf(r);
            }
            int bits = 0;
            for (int l = 0; l < links.size(); l++) {
                bits += links.get(l)[0] == r ? 1 << l : 0;
            }
            return bits;
        }

        int link(int l, int what) {
            must(l >= 0 && l < links.size() && (what == 0 || what == 1));
            return links.get(l)[what];
        }

        int seen(int p, int g, int h) {
            must(isPort(p) && isGoal(g) && isHops(h));
            return now.seen[g][p][h];
        }

        Set<String> edges(int g, int h) {
            Set<String> edges = new TreeSet<>();
            for (int p = 0; p < 32 && h < 10; p++) {
                int a = now.seen[g][p][h];
                int b = now.seen[g][p][h + 1];
                if (a >= 0 && b >= 0 && a != b) {
                    edges.add(a + ">" + b);
                }
            }
            return edges;
        }

        int hop(int g, int h, int what) {
            must(isGoal(g) && isHops(h) && what >= 0 && what <= 4);
            switch (what) {
                case 0: return bits(at(g, h));
                case 1: return now.sent[g][h];
                case 2: return edges(g, h).size();
                case 3: return bits(places(g, h));
                default: return bits(hidden(g, h));
            }
        }

        Set<Integer> hidden(int g, int h) {
            Set<Integer> hidden = places(g, h);
            hidden.removeAll(at(g, h));
            return hidden;
        }

        /** Each way is the list of its links. */
        List<List<Integer>> ways(int from, int to) {
            List<List<Integer>> ways = new ArrayList<>();
            if (from == to) {
                ways.add(new ArrayList<>());
                return ways;
            }
            for (int l = 0; l < links.size(); l++) {
                if (links.get(l)[0] == from) {
                    for (List<Integer> rest : ways(links.get(l)[1], to)) {
                        List<Integer> way = new ArrayList<>();
                        way.add(l);
                        way.addAll(rest);
                        ways.add(way);
                    }
                }
            }
            return ways;
        }

        Set<Integer> places(int g, int h) {
            Set<Integer> places = new TreeSet<>();
            for (List<Integer> way : ways(0, goals.get(g))) {
                if (h == 1) {
                    places.add(0);
                } else if (h - 2 < way.size()) {
                    places.add(way.get(h - 2) + 1);
                }
            }
            return places;
        }

        long sure(int g, int h) {
            must(isGoal(g) && isHops(h));
            int k = at(g, h).size();
            return k == 0 ? 1000000000000L : missed(now.sent[g][h], k + 1);
        }

        long missing(int n, int m) {
            if (n < 0 || n > 60 || m < 1 || m > 5) {
                throw new IllegalArgumentException();
            }
            return missed(n, m);
        }

        static long missed(int n, int m) {
            BigInteger whole = BigInteger.TEN.pow(12);
            BigInteger[] row = new BigInteger[m + 1];
            Arrays.fill(row, BigInteger.ZERO);
            row[0] = whole;
            for (int i = 0; i < n; i++) {
                BigInteger[] next = new BigInteger[m + 1];
                Arrays.fill(next, BigInteger.ZERO);
                for (int j = 0; j <= m; j++) {
                    BigInteger stays = row[j].multiply(BigInteger.valueOf(j)).divide(BigInteger.valueOf(m));
                    next[j] = next[j].add(stays);
                    if (j < m) {
                        next[j + 1] = next[j + 1].add(row[j].subtract(stays));
                    }
                }
                row = next;
            }
            return whole.subtract(row[m]).longValueExact();
        }

        int enough(int k) {
            for (int n = 1; n <= 60; n++) {
                if (missed(n, k + 1) < 10000000000L * now.loss) {
                    return n;
                }
            }
            return -1;
        }

        int edge(int g, int h, int a, int b) {
            must(isGoal(g) && isHops(h) && h != 10 && isAddress(a) && isAddress(b));
            return edges(g, h).contains(a + ">" + b) ? 1 : 0;
        }

        int diamond(int g, int i, int what) {
            must(isGoal(g) && what >= 0 && what <= 3);
            List<int[]> all = new ArrayList<>();
            for (int f = 1; f <= 10; f++) {
                for (int t = f + 2; t <= 10; t++) {
                    boolean is = at(g, f).size() == 1 && at(g, t).size() == 1;
                    for (int h = f + 1; h < t; h++) {
                        is &= at(g, h).size() > 1;
                    }
                    if (is) {
                        all.add(new int[] {f, t, width(g, f, t), skew(g, f, t)});
                    }
                }
            }
            if (i == -1) {
                return all.size();
            }
            must(i >= 0 && i < all.size());
            met.add("diamond");
            if (all.get(i)[3] > 0) {
                met.add("skew");
            }
            return all.get(i)[what];
        }

        int width(int g, int f, int t) {
            int width = 0;
            for (int h = f; h <= t; h++) {
                width = Math.max(width, at(g, h).size());
            }
            return width;
        }

        int skew(int g, int f, int t) {
            int skew = 0;
            for (int h = f; h < t; h++) {
                TreeSet<Integer> numbers = new TreeSet<>();
                for (int a : at(g, h)) {
                    int from = 0;
                    for (String edge : edges(g, h)) {
                        from += edge.startsWith(a + ">") ? 1 : 0;
                    }
                    numbers.add(from);
                }
                skew = Math.max(skew, numbers.last() - numbers.first());
            }
            return skew;
        }

        int loop(int p, int g, int what) {
            must(isPort(p) && isGoal(g) && (what == 0 || what == 1));
            for (int h = 1; h <= 9; h++) {
                int a = now.seen[g][p][h];
                if (a >= 0 && a == now.seen[g][p][h + 1] && owner(a) != goals.get(g)) {
                    int why = why(owner(a));
                    met.add("loop " + why);
                    return what == 0 ? h : why;
                }
            }
            return what == 0 ? -1 : 0;
        }

        int why(int router) {
            for (int[] link : links) {
                if (link[1] == router && routers.get(link[0])[3] == 2) {
                    return 1;
                }
            }
            for (List<Integer> way : ways(0, router)) {
                if (routers.get(0)[0] == 2) {
                    return 2;
                }
                for (int l : way) {
                    if (routers.get(links.get(l)[1])[0] == 2) {
                        return 2;
                    }
                }
            }
            return 3;
        }

        int truth(int g, int what) {
            must(isGoal(g) && what >= 0 && what <= 3);
            List<List<Integer>> ways = ways(0, goals.get(g));
            int longest = 0;
            int shortest = 99;
            for (List<Integer> way : ways) {
                longest = Math.max(longest, way.size() + 1);
                shortest = Math.min(shortest, way.size() + 1);
            }
            int hidden = 0;
            for (int h = 1; h <= 10; h++) {
                hidden += hidden(g, h).size();
            }
            return new int[] {ways.size(), longest, ways.isEmpty() ? 0 : shortest, hidden}[what];
        }

        int same(int a, int b) {
            must(isAddress(a) && isAddress(b));
            return owner(a) == owner(b) ? 1 : 0;
        }

        int[] kinds() {
            return routers.stream().mapToInt(r -> r[0]).toArray();
        }

        int[] salts() {
            return routers.stream().mapToInt(r -> r[1]).toArray();
        }

        /** Turns are stepped in the row that is given. */
        Way walk(int p, int g, int h, int[] kinds, int[] salts, int[] turns) {
            Way way = new Way();
            int at = 0;
            way.addresses.add(0);
            int left = h;
            boolean last = false;
            while (at != goals.get(g) && !last) {
                left--;
                if (left == 0) {
                    if (routers.get(at)[3] != 2) {
                        break;
                    }
                    last = true;
                }
                List<Integer> branches = new ArrayList<>();
                for (int l = 0; l < links.size(); l++) {
                    if (links.get(l)[0] == at && !ways(links.get(l)[1], goals.get(g)).isEmpty()) {
                        branches.add(l);
                    }
                }
                if (branches.isEmpty()) {
                    way.lost = true;
                    return way;
                }
                int n = branches.size();
                int by = 0;
                if (kinds[at] == 1) {
                    by = (7 * p + 13 * g + salts[at]) % n;
                } else if (kinds[at] == 2) {
                    by = turns[at] % n;
                    turns[at]++;
                    if (turns[at] == 60) {
                        turns[at] = 0;
                        met.add("wrapped turn");
                    }
                } else if (kinds[at] == 3) {
                    by = (13 * g + salts[at]) % n;
                }
                way.links.add(branches.get(by));
                way.addresses.add(branches.get(by) + 1);
                at = links.get(branches.get(by))[1];
            }
            way.router = at;
            way.muted = routers.get(at)[3] == 1 && !goals.contains(at);
            way.answer = way.muted ? -1 : way.addresses.get(way.addresses.size() - 1);
            return way;
        }

        Set<Integer> portsBy(int g, int l) {
            Set<Integer> ports = new TreeSet<>();
            for (int p = 0; p < 32; p++) {
                if (walk(p, g, 99, kinds(), salts(), now.turn.clone()).links.contains(l)) {
                    ports.add(p);
                }
            }
            return ports;
        }

        int port(int g, int l) {
            must(isGoal(g) && l >= 0 && l < links.size());
            Set<Integer> ports = portsBy(g, l);
            return ports.isEmpty() ? -1 : ports.iterator().next();
        }

        int use(int g, int l) {
            must(isGoal(g) && l >= 0 && l < links.size());
            return portsBy(g, l).size();
        }

        int cover(int g) {
            must(isGoal(g));
            Set<Integer> wanted = new TreeSet<>();
            for (List<Integer> way : ways(0, goals.get(g))) {
                wanted.addAll(way);
            }
            int n = 0;
            for (int l : wanted) {
                int p = port(g, l);
                if (p < 0) {
                    return -1;
                }
                n = Math.max(n, p + 1);
            }
            return n;
        }

        void act() {
            acts.addLast(now.copy());
            if (acts.size() > 40) {
                acts.removeFirst();
            }
        }

        int refuse() {
            status[1]++;
            return -1;
        }

        int send(int p, int g, int h, int depth) {
            now.opened++;
            now.deep = Math.max(now.deep, depth);
            now.sent[g][h]++;
            Way way = walk(p, g, h, kinds(), salts(), now.turn);
            if (way.lost) {
                met.add("lost");
                now.lost++;
            } else if (way.muted) {
                met.add("muted");
                now.muted++;
            } else {
                answer(way.router);
                now.seen[g][p][h] = way.answer;
            }
            return way.answer;
        }

        int answer(int r) {
            now.counter[r] = (now.counter[r] + routers.get(r)[2]) & 255;
            return now.counter[r];
        }

        int probe(int p, int g, int h) {
            if (!isPort(p) || !isGoal(g) || !isHops(h)) {
                refuse();
                return -2;
            }
            act();
            return send(p, g, h, 1);
        }

        int ping(int a) {
            if (!everSeen().contains(a)) {
                return refuse();
            }
            act();
            return answer(owner(a));
        }

        int sweep(int g, int h) {
            if (!isGoal(g) || !isHops(h)) {
                return refuse();
            }
            act();
            return sendSweep(g, h);
        }

        int sendSweep(int g, int h) {
            now.opened++;
            int sent = 0;
            do {
                send(sent, g, h, 2);
                sent++;
            } while (sent != 32 && sent < enough(Math.min(4, Math.max(1, at(g, h).size()))));
            return sent;
        }

        int trace(int p, int g) {
            if (!isPort(p) || !isGoal(g)) {
                return refuse();
            }
            act();
            return sendTrace(p, g);
        }

        int sendTrace(int p, int g) {
            now.opened++;
            for (int h = 1; h <= 10; h++) {
                int a = send(p, g, h, 2);
                if (a >= 0 && owner(a) == goals.get(g)) {
                    return h;
                }
            }
            return 10;
        }

        int twins(int a, int b) {
            if (a == b || !everSeen().contains(a) || !everSeen().contains(b)) {
                return refuse();
            }
            act();
            List<Integer> told = new ArrayList<>();
            for (int i = 0; i < 3; i++) {
                told.add(answer(owner(a)));
                told.add(answer(owner(b)));
            }
            for (int i = 1; i < 6; i++) {
                int more = told.get(i) - told.get(i - 1);
                more = more < 0 ? more + 256 : more;
                if (more == 0 || more > 120) {
                    return 0;
                }
            }
            return 1;
        }

        int loss(int l) {
            if (l < 1 || l > 50) {
                return refuse();
            }
            act();
            int was = now.loss;
            now.loss = l;
            return was;
        }

        int clear() {
            act();
            int sent = sentInAll();
            now.forget();
            return sent;
        }

        int undo() {
            if (acts.isEmpty()) {
                return -1;
            }
            now = acts.removeLast();
            return acts.size();
        }

        int note(int p, int g, int h, int a) {
            if (notes.size() == 8 || !isPort(p) || !isGoal(g) || !isHops(h) || !isAddress(a)) {
                status[2]++;
                return -1;
            }
            notes.add(new int[] {p, g, h, a});
            return notes.size();
        }

        List<Integer> fitting(int r) {
            List<Integer> all = new ArrayList<>();
            for (int kind : new int[] {0, 1, 3}) {
                for (int salt = 0; salt < 16; salt++) {
                    int[] kinds = kinds();
                    int[] salts = salts();
                    kinds[r] = kind;
                    salts[r] = salt;
                    boolean fits = true;
                    for (int[] note : notes) {
                        fits &= walk(note[0], note[1], note[2], kinds, salts, now.turn.clone()).answer == note[3];
                    }
                    if (fits) {
                        all.add(16 * kind + salt);
                    }
                }
            }
            return all;
        }

        int fits(int r, int what) {
            must(r >= 0 && r < routers.size() && (what == 0 || what == 1));
            List<Integer> all = fitting(r);
            return what == 0 ? all.size() : all.isEmpty() ? -1 : all.get(0);
        }

        int look(int r, int g, int what) {
            must(r >= 0 && r < routers.size() && isGoal(g) && (what == 0 || what == 1));
            int best = -1;
            int most = 0;
            List<Integer> all = fitting(r);
            for (int p = 0; p < 32; p++) {
                Set<Integer> unlike = new TreeSet<>();
                for (int code : all) {
                    int[] kinds = kinds();
                    int[] salts = salts();
                    kinds[r] = code / 16;
                    salts[r] = code % 16;
                    Way way = walk(p, g, 99, kinds, salts, now.turn.clone());
                    int n = way.addresses.size();
                    unlike.add(way.lost || n < 2 ? -1 : way.addresses.get(n - 2));
                }
                if (unlike.size() > most) {
                    most = unlike.size();
                    best = p;
                }
            }
            return what == 0 ? best : most;
        }

        int seed;

        int draw(int n) {
            seed = seed * 1103515245 + 12345;
            return (seed >>> 16 & 0x7fff) % n;
        }

        int years(int seedTold, int n, int what) {
            must(what >= 0 && what <= 2);
            if (n < 0 || n > 40) {
                throw new IllegalArgumentException();
            }
            State kept = now;
            now = now.copy();
            seed = seedTold;
            int probes = 0;
            for (int i = 0; i < n; i++) {
                int deed = draw(4);
                if (goals.isEmpty()) {
                    continue;
                }
                if (deed < 2) {
                    int p = draw(32);
                    int g = draw(goals.size());
                    send(p, g, draw(10) + 1, 1);
                    probes++;
                } else if (deed == 2) {
                    int g = draw(goals.size());
                    probes += sendSweep(g, draw(10) + 1);
                } else {
                    int p = draw(32);
                    probes += sendTrace(p, draw(goals.size()));
                }
            }
            int edges = 0;
            for (int g = 0; g < goals.size(); g++) {
                for (int h = 1; h <= 10; h++) {
                    edges += edges(g, h).size();
                }
            }
            int counters = Arrays.stream(now.counter).sum();
            now = kept;
            return new int[] {edges, probes, counters}[what];
        }

        void image() {
            imageNow = now.copy();
            imageActs = new ArrayDeque<>();
            for (State s : acts) {
                imageActs.addLast(s.copy());
            }
            imageNotes = new ArrayList<>(notes);
            imageStatus = status.clone();
        }

        boolean restore() {
            if (imageNow == null) {
                return false;
            }
            now = imageNow.copy();
            acts = new ArrayDeque<>();
            for (State s : imageActs) {
                acts.addLast(s.copy());
            }
            notes = new ArrayList<>(imageNotes);
            status = imageStatus.clone();
            return true;
        }
    }

    /** Reads by a table of what may stand next. */
    private static final class Told {
        final List<int[]> routers = new ArrayList<>();
        final List<int[]> links = new ArrayList<>();
        final List<Integer> goals = new ArrayList<>();
        int loss = -1;
        int place;

        int read(String text) {
            Matcher m = Pattern.compile("[a-z]+|[0-9]+|[^ \n]", Pattern.DOTALL).matcher(text);
            String state = "start";
            int[] held = new int[4];
            while (m.find()) {
                place = m.start();
                String t = m.group();
                TreeSet<Integer> faults = new TreeSet<>();
                state = next(state, t, held, faults);
                if (!faults.isEmpty()) {
                    return faults.first();
                }
            }
            place = text.length();
            return state.equals("start") ? 0 : 1;
        }

        String next(String state, String t, int[] held, Set<Integer> faults) {
            switch (state) {
                case "start":
                    if (t.equals("router")) {
                        too(routers.size() == 12, 2, faults);
                        return "kind";
                    }
                    if (t.equals("link")) {
                        too(links.size() == 20, 2, faults);
                        return "from";
                    }
                    if (t.equals("to")) {
                        too(goals.size() == 3, 2, faults);
                        return "goal";
                    }
                    too(!t.equals("loss"), 1, faults);
                    too(t.equals("loss") && loss >= 0, 4, faults);
                    return "loss";
                case "kind":
                    held[0] = Arrays.asList("one", "flow", "packet", "goal").indexOf(t);
                    too(held[0] < 0, 1, faults);
                    return "salt";
                case "salt":
                    held[1] = number(t, 0, 15, faults);
                    return "pace";
                case "pace":
                    held[2] = number(t, 1, 60, faults);
                    return "manner";
                case "manner":
                    if (t.equals(";")) {
                        routers.add(new int[] {held[0], held[1], held[2], 0});
                        return "start";
                    }
                    too(!t.equals("mute") && !t.equals("late"), 1, faults);
                    routers.add(new int[] {held[0], held[1], held[2], t.equals("mute") ? 1 : 2});
                    return "sign";
                case "from":
                    held[0] = router(t, faults);
                    too(links.stream().filter(l -> l[0] == held[0]).count() == 4, 2, faults);
                    return "other";
                case "other":
                    held[1] = router(t, faults);
                    too(held[1] <= held[0] || links.stream().anyMatch(l -> l[0] == held[0] && l[1] == held[1]), 5, faults);
                    links.add(new int[] {held[0], held[1]});
                    return "sign";
                case "goal":
                    held[0] = router(t, faults);
                    too(goals.contains(held[0]), 4, faults);
                    goals.add(held[0]);
                    return "sign";
                case "loss":
                    loss = number(t, 1, 50, faults);
                    return "sign";
                default:
                    too(!t.equals(";"), 1, faults);
                    return "start";
            }
        }

        static void too(boolean so, int fault, Set<Integer> faults) {
            if (so) {
                faults.add(fault);
            }
        }

        int router(String t, Set<Integer> faults) {
            int r = number(t, 0, 11, faults);
            too(r >= routers.size(), 3, faults);
            return r;
        }

        static int number(String t, int least, int most, Set<Integer> faults) {
            if (!t.matches("[0-9]+")) {
                faults.add(1);
                return -1;
            }
            if (t.length() > 2 || Integer.parseInt(t) < least || Integer.parseInt(t) > most) {
                faults.add(2);
                return -1;
            }
            return Integer.parseInt(t);
        }
    }
}
