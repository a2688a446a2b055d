import java.util.ArrayList;
import java.util.List;
import java.util.function.Consumer;
import java.util.function.ToLongFunction;

/** Promises 1 to 34: each argument just too small, just too large, or far away; and that a refused call changes nothing but STATUS. */
public final class RefusalsTest extends Due {
    /** Six routers, six links, two goals, so addresses go up to 6. */
    private static final String NET = ONE + "router flow 0 1;" + "router one 0 1 late;" + "router packet 0 1;" + ONE.repeat(2)
            + "link 0 1;link 1 2;link 1 3;link 2 4;link 3 4;link 4 5;to 5;to 4;";
    private static final int ROUTERS = 6;
    private static final int LINKS = 6;
    private static final int ADDRESSES = 7;
    private static final int GOALS = 2;
    private static final int NO_STATUS = -1;
    /** Where lookAt has these. */
    private static final int TAPE = 12;
    private static final int TEXTS = 13;
    private static final int ACTS = 14;
    private static final int NOTES = 15;
    private static final int PLACE = 21;

    public static void main(String[] args) {
        newObject();
        feeds();
        netAtItsEdges();
        netThatFails();
        netThatSucceeds();
        netsBehindOneAnother();
        faultPlace();
        counts();
        routersAndLinks();
        whatWasSeen();
        oddsAndEdges();
        truths();
        acts();
        unseen();
        notes();
        years();
        nothingToTakeBack();
        callsUpTo512();
        end();
    }

    /** All that a call could have changed, by few enough calls. */
    private static long[] lookAt(PathProber x) {
        List<Long> all = new ArrayList<>();
        for (int what = 0; what <= 20; what++) {
            all.add((long) x.count(what));
        }
        all.add((long) x.fault());
        for (int r = 0; r < ROUTERS; r++) {
            all.add((long) x.router(r, 4));
            all.add((long) x.router(r, 5));
        }
        for (int h = 1; h <= 6; h++) {
            for (int what = 0; what <= 2; what++) {
                all.add((long) x.hop(0, h, what));
            }
            all.add((long) x.seen(0, 1, h));
        }
        all.add((long) x.fits(1, 0));
        all.add((long) x.look(1, 0, 0));
        all.add((long) x.diamond(0, NONE, 0));
        all.add((long) x.loop(0, 0, 0));
        return all.stream().mapToLong(Long::longValue).toArray();
    }

    /** A net with something of everything: acts, notes, an image, a tape, a fault's place, one refusal of each. */
    private static PathProber rich() {
        PathProber x = of(NET);
        lay(x, "to x");
        x.net(4);
        lay(x, "loss 9;");
        x.trace(0, 0);
        x.trace(1, 0);
        x.probe(3, 1, 2);
        x.loss(7);
        x.ping(0);
        x.note(1, 0, 3, 3);
        x.probe(0, 0, 0);
        x.note(0, 0, 0, 0);
        x.image();
        x.ping(1);
        return x;
    }

    private static void refused(String what, ToLongFunction<PathProber> call, long want, int status) {
        PathProber x = rich();
        long[] before = lookAt(x);
        due(what, () -> call.applyAsLong(x), want);
        long[] after = lookAt(x);
        for (int i = 0; i < before.length; i++) {
            check(what + ", thing " + i + " behind it", after[i] - before[i], i == status ? 1 : 0);
        }
        due(what + ": undo behind it", x::undo, before[10] - 1);
        due(what + ": restore behind it", () -> x.restore() ? 1 : 0, 1);
    }

    private static void noSuch(String what, ToLongFunction<PathProber> call) {
        refused(what, call, NO_SUCH, NO_STATUS);
    }

    private static int[] outside(int first, int beyond) {
        return new int[] {first - 1, beyond, Integer.MIN_VALUE, Integer.MAX_VALUE};
    }

    private static int[] ports() {
        return outside(0, 32);
    }

    private static int[] goals() {
        return outside(0, GOALS);
    }

    private static int[] hops() {
        return outside(1, 11);
    }

    private static int[] addresses() {
        return outside(0, ADDRESSES);
    }

    private static void newObject() {
        PathProber x = new PathProber();
        long[] counts = {0, 0, 0, 5, 6, 11, 16, 21, 0, 0, 0, 0, 0, 0, 0, 0, 0, 0, 0, 0, 0};
        for (int i = 0; i < counts.length; i++) {
            int what = i;
            due("1: count " + what, () -> x.count(what), counts[what]);
        }
        due("1: no routers", () -> x.router(0, 0), NO_SUCH);
        due("1: no links", () -> x.link(0, 0), NO_SUCH);
        due("1: no goals", () -> x.cover(0), NO_SUCH);
        due("1: no addresses", () -> x.same(0, 0), NO_SUCH);
        due("1: no fault", x::fault, NONE);
        due("1: nothing to probe", () -> x.probe(0, 0, 1), -2);
        due("1: nothing to note", () -> x.note(0, 0, 1, 0), NONE);
        due("1: no image", () -> x.restore() ? 1 : 0, 0);
        PathProber y = new PathProber();
        y.loss(9);
        due("1: objects share nothing", () -> x.count(3), 5);
    }

    private static void feeds() {
        PathProber x = new PathProber();
        for (int i = 1; i <= 34; i++) {
            x.feed(0x20202020, 0x20202020, 0x20202020, 0x20202020, 0x20202020);
        }
        due("2: to 700 just so", () -> x.feed(0x20202020, 0x20202020, 0x20202020, 0x20202020, 0x206c6f73), 700);
        due("2: more than 700", () -> x.feed(0x3b3b3b3b, 0x3b3b3b3b, 0x3b3b3b3b, 0x3b3b3b3b, 0x3b3b3b3b), NONE);
        due("2: none come", () -> x.count(12), 700);
        due("2: nor in place of others", () -> x.net(700), 1);
        due("2: the last word", x::fault, 697);
        due("2: room again", () -> x.feed(0x6c6f7373, 0x2039393b, 0x80818283, -1, 0), 20);
        due("2: behind them", () -> x.feed(0, 0, 0, 0, 0x6c6f7373), 40);
        due("2: 99 is too much", () -> x.net(8), 2);
        // Of each number the highest byte comes first: "loss" from 36 on, and the sign behind it is on none.
        x.feed(0x6c6f7373, 0x20323b20, 0x20202020, 0x20202020, 0x20202020);
        due("2: the highest byte first", () -> x.net(20), 0);
        due("2: loss 2", () -> x.count(3), 2);
        int[] bytes = {0, 1, 9, 127, 128, 255};
        for (int b : bytes) {
            PathProber y = new PathProber();
            y.feed(0x20202020, 0x20202020, 0x20202020, 0x20202020, 0x20202000 | b);
            due("2: the twentieth byte " + b, () -> y.net(20), 1);
            due("2: its place", y::fault, 19);
            y.feed(b << 24 | 0x202020, 0, 0, 0, 0);
            due("2: the first byte " + b, () -> y.net(4), 1);
            due("2: its place", y::fault, 0);
        }
    }

    private static void netAtItsEdges() {
        for (int n : new int[] {-1, 21, Integer.MIN_VALUE, Integer.MAX_VALUE}) {
            refused("3: net " + n, x -> x.net(n), ILLEGAL, NO_STATUS);
        }
        PathProber x = rich();
        due("3: all of the tape", () -> x.net(20), 0);
        due("3: it is empty then", () -> x.count(12), 0);
        due("3: one from an empty tape", () -> x.net(1), ILLEGAL);
        due("3: none from an empty tape", () -> x.net(0), 0);
        PathProber y = rich();
        due("3: none of a tape: an empty text", () -> y.net(0), 0);
        due("3: what is left is gone too", () -> y.count(12), 0);
        due("3: no routers", () -> y.count(0), 0);
        due("3: loss as without", () -> y.count(3), 5);
    }

    private static void netThatFails() {
        PathProber x = rich();
        long[] before = lookAt(x);
        lay(x, "to x");
        due("3: a text with a fault", () -> x.net(24), 1);
        long[] after = lookAt(x);
        for (int i = 0; i < before.length; i++) {
            long due = i == TAPE ? 0 : i == PLACE ? 23 : i == TEXTS ? before[i] + 1 : before[i];
            check("3: thing " + i + " behind a fault", after[i], due);
        }
        due("3: acts stay", x::undo, before[10] - 1);
        due("3: the image stays", () -> x.restore() ? 1 : 0, 1);
    }

    private static void netThatSucceeds() {
        PathProber x = rich();
        int texts = x.count(13);
        due("3: loss 9", () -> x.net(7), 0);
        due("3: its loss", () -> x.count(3), 9);
        due("3: its enough", () -> x.count(4), 5);
        for (int what : new int[] {0, 1, 2, 8, 9, 10, 11, 12, 16, 17, 18, 19, 20}) {
            due("3: anew, count " + what, () -> x.count(what), 0);
        }
        due("3: status stays", () -> x.count(13), texts);
        due("3: no acts", x::undo, NONE);
        due("3: no image", () -> x.restore() ? 1 : 0, 0);
        due("3: no routers of the former", () -> x.router(0, 0), NO_SUCH);
        lay(x, NET);
        due("3: the same net again", () -> x.net(NET.length()), 0);
        due("3: turns, counters from 0", () -> x.router(3, 4) + x.router(0, 5) + x.router(1, 5), 0);
        due("3: nothing seen", () -> x.seen(0, 0, 1), NONE);
        due("3: nothing noted", () -> x.fits(1, 0), 48);
        due("3: nothing sent", () -> x.hop(0, 1, 1), 0);
        due("3: the same way", () -> x.probe(1, 0, 3), 3);
    }

    private static void netsBehindOneAnother() {
        PathProber x = of("router flow 0 1;router one 0 9 mute;" + ONE.repeat(2) + "link 0 1;link 0 2;link 1 3;link 2 3;to 3;");
        x.probe(0, 0, 2);
        due("3: one was mute", () -> x.count(19), 1);
        String behind = "router flow 0 1;" + ONE.repeat(3) + "link 1 2;link 0 3;to 3;to 1;";
        lay(x, behind);
        due("3: another net", () -> x.net(behind.length()), 0);
        due("3: none was mute", () -> x.count(19), 0);
        due("3: its own branches", () -> x.probe(0, 0, 2) * 10 + x.probe(1, 0, 2), 22);
        due("3: its own manners", () -> x.router(1, 3), 0);
        due("3: lost by it", () -> x.probe(0, 1, 2), NONE);
        due("3: one was lost", () -> x.count(20), 1);
        due("3: its own ways", () -> x.truth(0, 0) * 10 + x.truth(1, 0), 10);
        lay(x, ONE + "to 0;");
        due("3: a third net", () -> x.net(20), 0);
        due("3: none was lost", () -> x.count(20), 0);
        due("3: no more links", () -> x.link(0, 0), NO_SUCH);
        due("3: nor goals", () -> x.cover(1), NO_SUCH);
        due("3: nor links from it", () -> x.router(0, 6), 0);
        due("3: one way", () -> x.truth(0, 0), 1);
    }

    private static void faultPlace() {
        PathProber x = new PathProber();
        due("4: none yet", x::fault, NONE);
        lay(x, "x");
        x.net(1);
        due("4: 0 is a place", x::fault, 0);
        lay(x, "loss 99;");
        due("4: net that throws", () -> x.net(99), ILLEGAL);
        due("4: leaves it", x::fault, 0);
        x.net(8);
        due("4: the latest", x::fault, 5);
        x.net(0);
        due("4: none without", x::fault, NONE);
    }

    private static void counts() {
        for (int what : outside(0, 21)) {
            noSuch("5: count " + what, x -> x.count(what));
        }
    }

    private static void routersAndLinks() {
        for (int r : outside(0, ROUTERS)) {
            noSuch("6: router " + r, x -> x.router(r, 0));
            noSuch("29: fits of " + r, x -> x.fits(r, 0));
            noSuch("30: look of " + r, x -> x.look(r, 0, 0));
        }
        for (int what : outside(0, 8)) {
            noSuch("6: what " + what, x -> x.router(0, what));
        }
        for (int l : outside(0, LINKS)) {
            noSuch("7: link " + l, x -> x.link(l, 0));
            noSuch("17: port of link " + l, x -> x.port(0, l));
            noSuch("18: use of link " + l, x -> x.use(0, l));
        }
        for (int what : outside(0, 2)) {
            noSuch("7: what " + what, x -> x.link(0, what));
        }
        PathProber x = of(NET);
        due("6: the last router", () -> x.router(ROUTERS - 1, 7), 0);
        due("7: the last link", () -> x.link(LINKS - 1, 0) * 10 + x.link(LINKS - 1, 1), 45);
    }

    private static void whatWasSeen() {
        for (int p : ports()) {
            noSuch("8: seen of port " + p, x -> x.seen(p, 0, 1));
            noSuch("14: loop of port " + p, x -> x.loop(p, 0, 0));
        }
        for (int g : goals()) {
            noSuch("8: seen of goal " + g, x -> x.seen(0, g, 1));
            noSuch("9: hop of goal " + g, x -> x.hop(g, 1, 0));
            noSuch("10: sure of goal " + g, x -> x.sure(g, 1));
            noSuch("12: edge of goal " + g, x -> x.edge(g, 1, 0, 1));
            noSuch("13: diamond of goal " + g, x -> x.diamond(g, 0, 0));
            noSuch("13: diamonds of goal " + g, x -> x.diamond(g, NONE, 0));
            noSuch("14: loop of goal " + g, x -> x.loop(0, g, 0));
            noSuch("15: truth of goal " + g, x -> x.truth(g, 0));
            noSuch("17: port of goal " + g, x -> x.port(g, 0));
            noSuch("18: use of goal " + g, x -> x.use(g, 0));
            noSuch("19: cover of goal " + g, x -> x.cover(g));
            noSuch("30: look of goal " + g, x -> x.look(0, g, 0));
        }
        for (int h : hops()) {
            noSuch("8: seen at " + h, x -> x.seen(0, 0, h));
            noSuch("9: hop " + h, x -> x.hop(0, h, 0));
            noSuch("10: sure at " + h, x -> x.sure(0, h));
            noSuch("12: edge at " + h, x -> x.edge(0, h, 0, 1));
        }
        for (int what : outside(0, 5)) {
            noSuch("9: what " + what, x -> x.hop(0, 1, what));
        }
        for (int what : outside(0, 2)) {
            noSuch("14: what " + what, x -> x.loop(0, 0, what));
        }
        PathProber x = rich();
        due("8: the last of all", () -> x.seen(31, GOALS - 1, 10), NONE);
        due("9: the last of all", () -> x.hop(GOALS - 1, 10, 4), 0);
    }

    private static void oddsAndEdges() {
        for (int n : outside(0, 61)) {
            refused("11: missing of " + n, x -> x.missing(n, 1), ILLEGAL, NO_STATUS);
        }
        for (int m : outside(1, 6)) {
            refused("11: missing among " + m, x -> x.missing(1, m), ILLEGAL, NO_STATUS);
        }
        for (int a : addresses()) {
            noSuch("12: edge from " + a, x -> x.edge(0, 1, a, 1));
            noSuch("12: edge to " + a, x -> x.edge(0, 1, 0, a));
            noSuch("16: same of " + a, x -> x.same(a, 0));
            noSuch("16: same with " + a, x -> x.same(0, a));
            noSuch("16: same of " + a + " twice", x -> x.same(a, a));
        }
        noSuch("12: edge at 10", x -> x.edge(0, 10, 0, 1));
        PathProber x = rich();
        due("12: edge at 9", () -> x.edge(0, 9, 0, 6), 0);
        for (int i : new int[] {-2, 1, Integer.MIN_VALUE, Integer.MAX_VALUE}) {
            noSuch("13: diamond " + i, y -> y.diamond(0, i, 0));
        }
        for (int what : outside(0, 4)) {
            noSuch("13: what " + what, y -> y.diamond(0, 0, what));
        }
        due("13: there is just one", () -> x.diamond(0, NONE, 0), 1);
        noSuch("13: of a goal that has none", y -> y.diamond(1, 0, 0));
    }

    private static void truths() {
        for (int what : outside(0, 4)) {
            noSuch("15: what " + what, x -> x.truth(0, what));
        }
        for (int what : outside(0, 2)) {
            noSuch("29: what " + what, x -> x.fits(0, what));
            noSuch("30: what " + what, x -> x.look(0, 0, what));
        }
    }

    private static void acts() {
        for (int p : ports()) {
            refused("20: probe of port " + p, x -> x.probe(p, 0, 1), -2, ACTS);
            refused("23: trace of port " + p, x -> x.trace(p, 0), NONE, ACTS);
        }
        for (int g : goals()) {
            refused("20: probe to goal " + g, x -> x.probe(0, g, 1), -2, ACTS);
            refused("22: sweep of goal " + g, x -> x.sweep(g, 1), NONE, ACTS);
            refused("23: trace to goal " + g, x -> x.trace(0, g), NONE, ACTS);
        }
        for (int h : hops()) {
            refused("20: probe with hops " + h, x -> x.probe(0, 0, h), -2, ACTS);
            refused("22: sweep at " + h, x -> x.sweep(0, h), NONE, ACTS);
        }
        for (int l : outside(1, 51)) {
            refused("25: loss " + l, x -> x.loss(l), NONE, ACTS);
        }
        refused("20: all wrong is one refusal", x -> x.probe(-1, -1, 0), -2, ACTS);
        PathProber x = rich();
        due("25: loss 1", () -> x.loss(1), 7);
        due("25: loss 50", () -> x.loss(50), 1);
        due("25: what it was", () -> x.loss(50), 50);
        due("20: the last port, the last goal, the last hop", () -> x.probe(31, 1, 10), 4);
        due("22: the last hop", () -> x.sweep(1, 10) > 0 ? 1 : 0, 1);
        due("23: the last port", () -> x.trace(31, 1), 3);
    }

    private static void unseen() {
        for (int a : addresses()) {
            refused("21: ping of " + a, x -> x.ping(a), NONE, ACTS);
            refused("24: twins of " + a, x -> x.twins(a, 1), NONE, ACTS);
            refused("24: twins with " + a, x -> x.twins(1, a), NONE, ACTS);
            refused("24: twins of " + a + " twice", x -> x.twins(a, a), NONE, ACTS);
        }
        refused("24: twins of one", x -> x.twins(1, 1), NONE, ACTS);
        PathProber x = of(NET);
        x.probe(0, 0, 1);
        due("21: another one that wasn't seen", () -> x.ping(1), NONE);
        due("24: the second wasn't", () -> x.twins(0, 1), NONE);
        due("24: the first wasn't", () -> x.twins(1, 0), NONE);
        due("24: neither was", () -> x.twins(1, 2), NONE);
        due("24: no counter went on", () -> x.router(0, 5), 1);
        due("24: all refused", () -> x.count(14), 4);
        due("24: none kept", () -> x.count(10), 1);
    }

    private static void notes() {
        for (int p : ports()) {
            refused("28: note of port " + p, x -> x.note(p, 0, 1, 0), NONE, NOTES);
        }
        for (int g : goals()) {
            refused("28: note of goal " + g, x -> x.note(0, g, 1, 0), NONE, NOTES);
        }
        for (int h : hops()) {
            refused("28: note at " + h, x -> x.note(0, 0, h, 0), NONE, NOTES);
        }
        for (int a : addresses()) {
            refused("28: note with " + a, x -> x.note(0, 0, 1, a), NONE, NOTES);
        }
        PathProber x = rich();
        due("28: the last of all", () -> x.note(31, 1, 10, 6), 2);
        for (int i = 3; i <= 8; i++) {
            x.note(0, 0, 1, 0);
        }
        due("28: full", () -> x.note(0, 0, 1, 0), NONE);
        due("28: full and wrong is one refusal", () -> x.note(-1, 0, 1, 0), NONE);
        due("28: refused", () -> x.count(15), 3);
        x.forget();
        due("31: forgotten", () -> x.count(11), 0);
        x.forget();
        due("31: nothing to forget", () -> x.count(11), 0);
        due("31: refusals stay", () -> x.count(15), 3);
    }

    private static void years() {
        for (int n : outside(0, 41)) {
            refused("32: years of " + n, x -> x.years(1, n, 0), ILLEGAL, NO_STATUS);
            noSuch("32: what ahead of n " + n, x -> x.years(1, n, 3));
        }
        for (int what : outside(0, 3)) {
            noSuch("32: what " + what, x -> x.years(1, 1, what));
        }
        PathProber x = rich();
        long[] before = lookAt(x);
        x.years(5, 40, 0);
        x.years(6, 40, 1);
        x.years(7, 40, 2);
        long[] after = lookAt(x);
        for (int i = 0; i < before.length; i++) {
            check("32: thing " + i + " behind years", after[i], before[i]);
        }
    }

    private static void nothingToTakeBack() {
        PathProber x = of(NET);
        due("27: none", x::undo, NONE);
        due("34: none", () -> x.restore() ? 1 : 0, 0);
        due("26: nothing to forget", x::clear, 0);
        due("27: that was an act", x::undo, 0);
        due("27: none again", x::undo, NONE);
        due("27: no refusal", () -> x.count(13) + x.count(14) + x.count(15), 0);
        x.image();
        x.probe(0, 0, 1);
        due("34: an image of nothing", () -> x.restore() ? 1 : 0, 1);
        due("34: nothing was sent", () -> x.count(9) + x.count(10), 0);
        x.probe(0, 0, 1);
        x.image();
        x.undo();
        due("33: in place of the other one", () -> x.restore() ? 1 : 0, 1);
        due("33: the newer one", () -> x.count(9) * 10 + x.count(10), 11);
    }

    private static void callsUpTo512() {
        PathProber x = new PathProber();
        int fed = (NET.length() + 19) / 20;
        lay(x, NET);
        x.net(NET.length());
        repeat(511 - fed - 1, i -> x.sweep(i % 2, 1 + i % 10));
        due("the 512th call", () -> x.count(10), 40);
    }

    private static void repeat(int times, Consumer<Integer> call) {
        for (int i = 0; i < times; i++) {
            call.accept(i);
        }
    }
}
