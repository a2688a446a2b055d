/** 'Terms', part 3: diamonds, loops, what is so in truth, what is noted, years, status, the image, at their bounds. */
public final class SightEdgesTest extends Due {
    private static final String LATE = "router one 0 1 late;";
    /** 0 - 1 < (2, 3) > 4 - 5, shared out by flow at 1: an even port goes by 2. */
    private static final String FORK = ONE + "router flow 0 1;" + ONE.repeat(4)
            + "link 0 1;link 1 2;link 1 3;link 2 4;link 3 4;link 4 5;to 5;";
    /** By packets to one of two, each of which is the goal's neighbour. */
    private static final String PACKETS = "router packet 0 1;" + ONE.repeat(3) + "link 0 1;link 0 2;link 1 3;link 2 3;to 3;";

    public static void main(String[] args) {
        diamondNeedsOneAtBothEnds();
        diamondNeedsOneBetweenAtLeast();
        diamondsByTheirHops();
        diamondAtTheLastHops();
        width();
        skew();
        loopIsTheLeast();
        loopAtTheLastHops();
        loopIsNotTheGoals();
        why();
        waysInTruth();
        placesAndHidden();
        portUseCover();
        coverAtItsEdges();
        sure();
        notedAreAtMostEight();
        fits();
        askingChangesNothing();
        fitsByTurnsAsTheyAre();
        lookNext();
        years();
        yearsOfForty();
        status();
        imageKeeps();
        imageKeepsWhatIsNoted();
        imageOfForty();
        end();
    }

    /** Probes with some hops by ports 0 and 1. */
    private static void both(PathProber x, int h) {
        x.probe(0, 0, h);
        x.probe(1, 0, h);
    }

    private static void diamondNeedsOneAtBothEnds() {
        PathProber x = of(FORK);
        both(x, 3);
        both(x, 4);
        x.probe(0, 0, 5);
        due("no first", () -> x.diamond(0, NONE, 0), 0);
        x.probe(0, 0, 2);
        due("both ends", () -> x.diamond(0, NONE, 0), 1);
        due("f", () -> x.diamond(0, 0, 0), 2);
        due("t", () -> x.diamond(0, 0, 1), 5);
        PathProber y = of(FORK);
        x.probe(0, 0, 1);
        both(y, 2);
        both(y, 3);
        both(y, 4);
        due("no last", () -> y.diamond(0, NONE, 0), 0);
        y.probe(0, 0, 6);
        due("none at the hop where it would end", () -> y.diamond(0, NONE, 0), 0);
        PathProber z = of(FORK);
        z.probe(0, 0, 2);
        both(z, 3);
        z.probe(0, 0, 5);
        due("a hop between with none", () -> z.diamond(0, NONE, 0), 0);
        // By packets a late first router is never seen; at hop 1 there are two then.
        PathProber late = of("router packet 0 1 late;" + ONE.repeat(4) + "link 0 1;link 0 2;link 1 3;link 2 3;link 3 4;to 4;");
        both(late, 1);
        both(late, 2);
        both(late, 3);
        both(late, 4);
        due("two at hop 1", () -> Integer.bitCount(late.hop(0, 1, 0)), 2);
        due("one behind them", () -> late.hop(0, 4, 0), 0b100000);
        due("two at hop 1 begin none", () -> late.diamond(0, NONE, 0), 0);
    }

    private static void diamondNeedsOneBetweenAtLeast() {
        PathProber x = of(chain(5) + "to 4;");
        x.trace(0, 0);
        due("a row of ones has none", () -> x.diamond(0, NONE, 0), 0);
        due("none is the first", () -> x.diamond(0, 0, 0), NO_SUCH);
        PathProber y = of(FORK);
        y.probe(0, 0, 2);
        both(y, 3);
        y.probe(0, 0, 4);
        due("one between is enough", () -> y.diamond(0, NONE, 0), 1);
        due("f", () -> y.diamond(0, 0, 0), 2);
        due("t", () -> y.diamond(0, 0, 1), 4);
        due("width", () -> y.diamond(0, 0, 2), 2);
        // At 3 one address has an edge, the other has none.
        due("skew", () -> y.diamond(0, 0, 3), 1);
        due("no second", () -> y.diamond(0, 1, 0), NO_SUCH);
        PathProber z = of(FORK);
        due("nothing seen", () -> z.diamond(0, NONE, 0), 0);
    }

    /** Two forks in a row: what ends the first begins the second. */
    private static void diamondsByTheirHops() {
        PathProber x = of("router flow 0 1;" + ONE.repeat(3) + "router flow 0 1;" + ONE.repeat(4)
                + "link 0 1;link 0 2;link 1 3;link 2 3;link 3 4;link 4 5;link 4 6;link 5 7;link 6 7;link 7 8;to 8;");
        x.trace(0, 0);
        x.trace(1, 0);
        due("two", () -> x.diamond(0, NONE, 0), 2);
        due("the first's f", () -> x.diamond(0, 0, 0), 1);
        due("the first's t", () -> x.diamond(0, 0, 1), 4);
        due("the second's f", () -> x.diamond(0, 1, 0), 4);
        due("the second's t", () -> x.diamond(0, 1, 1), 7);
        due("no third", () -> x.diamond(0, 2, 0), NO_SUCH);
        due("none below", () -> x.diamond(0, -2, 0), NO_SUCH);
        x.clear();
        due("forgotten", () -> x.diamond(0, NONE, 0), 0);
    }

    private static void diamondAtTheLastHops() {
        String far = ONE.repeat(6) + "router flow 0 1;" + ONE.repeat(5) + row(0, 6)
                + "link 6 7;link 6 8;link 7 9;link 8 9;link 9 10;link 10 11;to 11;";
        PathProber x = of(far);
        x.trace(0, 0);
        x.trace(1, 0);
        due("one", () -> x.diamond(0, NONE, 0), 1);
        due("f is 7", () -> x.diamond(0, 0, 0), 7);
        due("t is 10", () -> x.diamond(0, 0, 1), 10);
        PathProber y = of(ONE.repeat(7) + "router flow 0 1;" + ONE.repeat(4) + row(0, 7)
                + "link 7 8;link 7 9;link 8 10;link 9 10;link 10 11;to 11;");
        y.trace(0, 0);
        y.trace(1, 0);
        due("two at hop 10", () -> Integer.bitCount(y.hop(0, 10, 0)), 2);
        due("t would be 11", () -> y.diamond(0, NONE, 0), 0);
    }

    private static void width() {
        PathProber x = of(ONE + "router packet 0 1;" + ONE.repeat(6) + "link 0 1;link 1 2;link 1 3;link 1 4;link 1 5;"
                + "link 2 6;link 3 6;link 4 6;link 5 6;link 6 7;to 7;");
        for (int port = 0; port < 4; port++) {
            x.probe(port, 0, 3);
        }
        x.probe(0, 0, 2);
        both(x, 4);
        x.probe(0, 0, 5);
        due("the most at any hop", () -> x.diamond(0, 0, 2), 4);
        due("two behind it", () -> Integer.bitCount(x.hop(0, 4, 0)), 2);
    }

    /** Router 1 shares out to 2 and 3 by flow; 2 to 4, 5, 6 by packet; 3 goes on to 7 alone. */
    private static void skew() {
        PathProber x = of(ONE + "router flow 0 1;router packet 0 1;" + ONE.repeat(7)
                + "link 0 1;link 1 2;link 1 3;link 2 4;link 2 5;link 2 6;link 3 7;link 4 8;link 5 8;link 6 8;link 7 8;link 8 9;to 9;");
        for (int port = 0; port < 6; port++) {
            x.probe(port, 0, 2);
            x.probe(port, 0, 3);
            x.probe(port, 0, 4);
        }
        due("no end, no diamond", () -> x.diamond(0, 0, 3), NO_SUCH);
        x.probe(0, 0, 6);
        due("a gap", () -> x.diamond(0, NONE, 0), 0);
        both(x, 5);
        due("two at 5", () -> Integer.bitCount(x.hop(0, 5, 0)), 2);
        due("one diamond", () -> x.diamond(0, NONE, 0), 1);
        due("from 2 to 6", () -> x.diamond(0, 0, 0) * 10 + x.diamond(0, 0, 1), 26);
        due("three edges, and one", () -> x.hop(0, 3, 2), 4);
        // At 3: 3 less 1. At 4: of four addresses one or two have an edge, the others none.
        due("3 less 1", () -> x.diamond(0, 0, 3), 2);
        PathProber y = of(FORK);
        y.probe(0, 0, 2);
        both(y, 3);
        y.probe(2, 0, 4);
        due("no edges at all", () -> y.hop(0, 3, 2), 0);
        due("0 less 0", () -> y.diamond(0, 0, 3), 0);
    }

    private static void loopIsTheLeast() {
        PathProber x = of(LATE + ONE + LATE + ONE + ONE + row(0, 4) + "to 4;");
        x.probe(0, 0, 3);
        x.probe(0, 0, 4);
        due("the later one alone", () -> x.loop(0, 0, 0), 3);
        x.probe(0, 0, 1);
        due("half of the other", () -> x.loop(0, 0, 0), 3);
        x.probe(1, 0, 2);
        due("its other half by another port", () -> x.loop(0, 0, 0), 3);
        x.probe(0, 0, 2);
        due("the least", () -> x.loop(0, 0, 0), 1);
        due("none of the other port's", () -> x.loop(1, 0, 0), NONE);
        due("nor a reason", () -> x.loop(1, 0, 1), 0);
    }

    private static void loopAtTheLastHops() {
        PathProber x = of(ONE.repeat(8) + LATE + ONE.repeat(3) + row(0, 11) + "to 11;");
        x.probe(31, 0, 9);
        due("at 9 alone", () -> x.loop(31, 0, 0), NONE);
        x.probe(31, 0, 10);
        due("at 9 and 10", () -> x.loop(31, 0, 0), 9);
        due("late", () -> x.loop(31, 0, 1), 1);
        PathProber y = of(ONE.repeat(9) + LATE + ONE.repeat(2) + row(0, 11) + "to 11;");
        y.probe(0, 0, 9);
        y.probe(0, 0, 10);
        due("at 10 there is none behind", () -> y.loop(0, 0, 0), NONE);
    }

    private static void loopIsNotTheGoals() {
        PathProber x = of(ONE + LATE + ONE + row(0, 2) + "to 2;to 1;");
        x.probe(0, 0, 2);
        x.probe(0, 0, 3);
        due("the goal's, by a late one", () -> x.loop(0, 0, 0), NONE);
        due("no reason", () -> x.loop(0, 0, 1), 0);
        PathProber y = of(LATE + ONE + ONE + row(0, 2) + "to 2;to 1;");
        y.probe(0, 0, 1);
        y.probe(0, 0, 2);
        due("another goal's is one", () -> y.loop(0, 0, 0), 1);
        due("for the other goal it isn't", () -> y.probe(0, 1, 1) + y.probe(0, 1, 2) + y.loop(0, 1, 0), 1);
        // The goal's router was come to by both hops, yet by two addresses.
        PathProber z = of(PACKETS);
        z.probe(0, 0, 9);
        z.probe(0, 0, 10);
        due("two addresses", () -> z.seen(0, 0, 9) * 10 + z.seen(0, 0, 10), 34);
        due("are no loop", () -> z.loop(0, 0, 0), NONE);
    }

    private static void why() {
        // By packets straight or round by router 1: router 3 lies at 3 and at 4.
        String round = "link 0 2;link 0 1;link 1 2;link 2 3;";
        PathProber packet = of("router packet 0 1;" + ONE.repeat(4) + round + "link 3 4;to 4;");
        packet.probe(0, 0, 3);
        packet.probe(0, 0, 4);
        due("by packets", () -> packet.loop(0, 0, 0) * 10 + packet.loop(0, 0, 1), 32);
        PathProber beside = of("router packet 0 1;" + ONE.repeat(3) + LATE + ONE + round + "link 3 5;link 4 5;to 5;");
        beside.probe(0, 0, 3);
        beside.probe(0, 0, 4);
        due("a late one has a link to another router", () -> beside.loop(0, 0, 0) * 10 + beside.loop(0, 0, 1), 32);
        // Here no probe comes to the late router 2, but it has a link to router 4, which lies at 3 and at 4.
        PathProber first = of("router packet 0 1;" + ONE + LATE + ONE.repeat(3)
                + "link 0 3;link 0 1;link 1 3;link 3 4;link 2 4;link 4 5;to 5;");
        first.probe(0, 0, 3);
        first.probe(0, 0, 4);
        due("a late one with a link to it comes first", () -> first.loop(0, 0, 0) * 10 + first.loop(0, 0, 1), 31);
        PathProber second = of(ONE + "router packet 0 1;" + ONE.repeat(4) + "link 0 1;link 1 3;link 1 2;link 2 3;link 3 4;link 4 5;to 5;");
        second.probe(0, 0, 4);
        second.probe(0, 0, 5);
        due("a second router by packet", () -> second.loop(0, 0, 0) * 10 + second.loop(0, 0, 1), 42);
        StringBuilder full = new StringBuilder("router packet 0 1;" + ONE.repeat(10) + LATE
                + "link 0 2;link 0 1;link 1 2;link 2 3;link 3 4;link 4 5;");
        for (int from = 5; from <= 7; from++) {
            for (int to = from + 1; to <= from + 4; to++) {
                full.append("link ").append(from).append(' ').append(to).append(';');
            }
        }
        PathProber twenty = of(full + "link 8 9;link 8 10;to 10;");
        due("twenty links, twelve routers", () -> twenty.count(1) * 100 + twenty.count(0), 2012);
        twenty.probe(0, 0, 3);
        twenty.probe(0, 0, 4);
        due("no late one has a link", () -> twenty.loop(0, 0, 0) * 10 + twenty.loop(0, 0, 1), 32);
    }

    private static void waysInTruth() {
        PathProber none = of(ONE + ONE + "to 1;");
        for (int i = 0; i <= 3; i++) {
            int what = i;
            due("no way, truth " + i, () -> none.truth(0, what), 0);
        }
        PathProber self = of(ONE + ONE + "link 0 1;to 0;");
        due("router 0 itself: one way", () -> self.truth(0, 0), 1);
        due("of one router", () -> self.truth(0, 1) * 10 + self.truth(0, 2), 11);
        PathProber chain = of(chain(12) + "to 11;");
        due("one way", () -> chain.truth(0, 0), 1);
        due("of twelve", () -> chain.truth(0, 1) * 100 + chain.truth(0, 2), 1212);
        // Hops go up to 10, so two of the twelve lie beyond.
        due("hidden at ten hops", () -> chain.truth(0, 3), 10);
        PathProber cut = of(chain(12) + "link 0 11;to 11;");
        due("two ways", () -> cut.truth(0, 0), 2);
        due("the longest", () -> cut.truth(0, 1), 12);
        due("the shortest", () -> cut.truth(0, 2), 2);
        due("the longest, asked first", () -> of(chain(3) + "to 2;").truth(0, 1), 3);
        due("the shortest, asked first", () -> of(chain(3) + "to 2;").truth(0, 2), 3);
        PathProber two = of(chain(4) + "link 0 3;to 3;to 2;");
        due("of one goal", () -> two.truth(0, 2), 2);
        due("then of another", () -> two.truth(1, 2), 3);
        due("and of the first again", () -> two.truth(0, 1), 4);
        // From each router one goes on by one or by two.
        PathProber many = of(ONE.repeat(12) + "link 0 1;link 0 2;link 1 2;link 1 3;link 2 3;link 2 4;link 3 4;link 3 5;link 4 5;"
                + "link 4 6;link 5 6;link 5 7;link 6 7;link 6 8;link 7 8;link 7 9;link 8 9;link 8 10;link 9 10;link 9 11;to 10;");
        due("ten by ones and twos: 89 ways", () -> many.truth(0, 0), 89);
        due("the longest of eleven", () -> many.truth(0, 1), 11);
        due("the shortest of six", () -> many.truth(0, 2), 6);
    }

    private static void placesAndHidden() {
        PathProber x = of(FORK);
        due("router 0 at 1", () -> x.hop(0, 1, 3), 1);
        due("at 3", () -> x.hop(0, 3, 3), 0b1100);
        due("the goal at 5", () -> x.hop(0, 5, 3), 0b1000000);
        due("none at 6", () -> x.hop(0, 6, 3), 0);
        due("all hidden", () -> x.truth(0, 3), 7);
        x.probe(0, 0, 6);
        due("seen where it doesn't lie hides it still", () -> x.hop(0, 5, 4), 0b1000000);
        due("nor is it hidden there", () -> x.hop(0, 6, 4), 0);
        x.trace(0, 0);
        due("two are left", () -> x.truth(0, 3), 2);
        x.trace(1, 0);
        due("none is left", () -> x.truth(0, 3), 0);
        PathProber y = of(ONE + ONE + ONE + "link 0 1;link 0 2;link 1 2;to 2;");
        due("one router at two hops by two addresses", () -> y.hop(0, 2, 3) * 100 + y.hop(0, 3, 3), 0b110 * 100 + 0b1000);
        PathProber chain = of(chain(12) + "to 11;");
        due("at 10", () -> chain.hop(0, 10, 3), 1 << 9);
        PathProber none = of(ONE + ONE + "to 1;");
        due("no way, no place", () -> none.hop(0, 1, 3), 0);
        none.probe(0, 0, 1);
        due("none hidden though seen", () -> none.hop(0, 1, 4), 0);
        PathProber self = of(ONE + ONE + "link 0 1;to 0;");
        due("the goal's own place", () -> self.hop(0, 1, 3) * 10 + self.hop(0, 2, 3), 10);
    }

    private static void portUseCover() {
        PathProber x = of(FORK);
        due("by all", () -> x.use(0, 0), 32);
        due("by odd ports", () -> x.port(0, 2), 1);
        due("half of them", () -> x.use(0, 2), 16);
        PathProber y = of("router flow 0 1;" + ONE.repeat(4) + "link 0 1;link 0 2;link 0 3;link 1 4;link 2 4;link 3 4;to 4;");
        // 7 times the port MOD 3 is the port MOD 3: 11 ports of 0 and 1, 10 of 2.
        due("a third", () -> y.use(0, 0) * 10000 + y.use(0, 1) * 100 + y.use(0, 2), 111110);
        due("the third branch", () -> y.port(0, 2), 2);
        PathProber z = of(PACKETS);
        due("as turns are", () -> z.use(0, 0) * 100 + z.use(0, 1), 3200);
        due("none", () -> z.port(0, 1), NONE);
        z.probe(0, 0, 2);
        due("as turns are then", () -> z.use(0, 0) * 100 + z.use(0, 1), 32);
        due("each alone, so no turn", () -> z.router(0, 4), 1);
        PathProber away = of(ONE.repeat(4) + "link 0 1;link 0 2;link 2 3;to 1;");
        due("a link that leads elsewhere", () -> away.port(0, 1), NONE);
        due("nor one behind it", () -> away.use(0, 2), 0);
        // A late one matters only where hops end; these are beyond all.
        PathProber far = of(chain(12) + "to 11;");
        due("the eleventh link", () -> far.port(0, 10), 0);
        PathProber self = of(ONE + ONE + "link 0 1;to 0;");
        due("behind the goal", () -> self.use(0, 0), 0);
    }

    private static void coverAtItsEdges() {
        PathProber self = of(ONE + ONE + "link 0 1;to 0;");
        due("no link on a way: the goal is router 0", () -> self.cover(0), 0);
        PathProber none = of(ONE + ONE + "to 1;");
        due("no link on a way: none leads there", () -> none.cover(0), 0);
        PathProber off = of(ONE.repeat(3) + "link 0 1;link 1 2;to 2;");
        due("one port", () -> off.cover(0), 1);
        // Router 0 sends ports 2, 5, 8, 11 to router 1, which needs four of them for its four branches.
        PathProber twelve = of("router flow 1 1;router flow 0 1;" + ONE.repeat(7) + "link 0 1;link 0 2;link 0 3;"
                + "link 1 4;link 1 5;link 1 6;link 1 7;link 2 8;link 3 8;link 4 8;link 5 8;link 6 8;link 7 8;to 8;");
        due("twelve ports", () -> twelve.cover(0), 12);
        due("packets' other branch", () -> of(PACKETS).cover(0), NONE);
        due("goals' other branch", () -> of("router goal" + PACKETS.substring(13)).cover(0), NONE);
        PathProber unreached = of(ONE.repeat(3) + "link 0 2;link 1 2;to 2;");
        due("a link that isn't on a way from router 0", () -> unreached.cover(0), 1);
    }

    private static void sure() {
        PathProber x = of(ONE + "router one 0 1 mute;" + ONE + row(0, 2) + "to 2;");
        x.probe(0, 0, 2);
        due("sent, none seen", () -> x.sure(0, 2), WHOLE);
        x.probe(0, 0, 1);
        due("1 among 2", () -> x.sure(0, 1), WHOLE);
        x.probe(0, 0, 1);
        due("2 among 2", () -> x.sure(0, 1), WHOLE / 2);
        for (int i = 3; i <= 40; i++) {
            x.probe(0, 0, 1);
        }
        due("40 among 2", () -> x.sure(0, 1), 1);
        for (int i = 41; i <= 61; i++) {
            x.probe(0, 0, 1);
        }
        due("more than 60", () -> x.sure(0, 1), 0);
        due("at the last hop none", () -> x.sure(0, 10), WHOLE);
        PathProber wide = of("router packet 0 1;router packet 0 1;router packet 0 1;" + ONE.repeat(6)
                + "link 0 1;link 0 2;link 0 3;link 0 4;link 1 5;link 1 6;link 1 7;link 2 5;link 2 6;link 2 7;link 3 5;link 4 5;"
                + "link 5 8;link 6 8;link 7 8;to 8;");
        for (int i = 0; i < 9; i++) {
            int port = i;
            wide.probe(port, 0, 3);
        }
        due("more than five", () -> Integer.bitCount(wide.hop(0, 3, 0)), 7);
        // 9 among 8: all are met by 8 in a row (8! of 8 to the 8th) or by 9 with one pair: 8! times 36 of 8 to the 9th.
        due("9 among 8", () -> (WHOLE - wide.sure(0, 3)) / 1000, 40320L * 36 * 1000000000L / 134217728L);
    }

    private static void notedAreAtMostEight() {
        PathProber x = of(FORK);
        for (int i = 1; i <= 8; i++) {
            int due = i;
            due("note " + i, () -> x.note(0, 0, 1, 0), due);
        }
        due("the ninth", () -> x.note(0, 0, 1, 0), NONE);
        due("eight", () -> x.count(11), 8);
        due("refused", () -> x.count(15), 1);
        due("no act is refused by that", () -> x.count(14), 0);
        x.forget();
        due("from one again", () -> x.note(31, 0, 10, 6), 1);
        due("no act", () -> x.count(10), 0);
    }

    private static void fits() {
        PathProber x = of(FORK);
        due("without any noted all", () -> x.fits(0, 0), 48);
        due("the first", () -> x.fits(0, 1), 0);
        x.note(1, 0, 3, 3);
        // By flow 7 and the salt is odd for even salts: 16, 18, ..; by goal the salt is odd: 49, 51, ..
        due("16 by flow and by goal", () -> x.fits(1, 0), 16);
        due("the first by flow", () -> x.fits(1, 1), 16);
        x.note(2, 0, 3, 3);
        due("by goal alone", () -> x.fits(1, 0), 8);
        due("the first by goal", () -> x.fits(1, 1), 49);
        x.note(3, 0, 3, 2);
        due("none", () -> x.fits(1, 0), 0);
        due("no first", () -> x.fits(1, 1), NONE);
        due("for another router none either", () -> x.fits(5, 0), 0);
        x.forget();
        x.note(0, 0, 3, 2);
        due("by one, by flow, by goal: 16, 8, 8", () -> x.fits(1, 0), 32);
        due("for another router all", () -> x.fits(3, 0), 48);
        x.note(0, 0, 10, 6);
        due("at the last hop, the goal's", () -> x.fits(1, 0), 32);
        x.note(0, 0, 10, 5);
        due("not by its neighbour's address", () -> x.fits(1, 0), 0);
        PathProber y = of(ONE + "router one 0 1 mute;" + ONE + row(0, 2) + "to 2;");
        y.note(0, 0, 2, 1);
        due("a mute one would not answer", () -> y.fits(0, 0), 0);
        PathProber lost = of(ONE + ONE + "to 1;");
        lost.note(0, 0, 2, 0);
        due("nor would a lost one", () -> lost.fits(0, 0), 0);
        PathProber late = of(LATE + ONE + ONE + row(0, 2) + "to 2;");
        late.note(0, 0, 1, 1);
        due("a late one sends on", () -> late.fits(0, 0), 48);
        late.note(0, 0, 1, 0);
        due("so it isn't itself", () -> late.fits(0, 0), 0);
        PathProber end = of(chain(3) + ONE + "to 2;to 1;to 0;");
        end.note(0, 0, 3, 2);
        end.note(3, 1, 9, 1);
        end.note(31, 2, 10, 0);
        due("of the goal's, which has no branches", () -> end.fits(2, 0), 48);
        due("of one that no way leads to", () -> end.fits(3, 0), 48);
        due("by goals", () -> end.fits(0, 0), 48);
        end.note(31, 2, 10, 1);
        due("each note by its goal", () -> end.fits(0, 0), 0);
    }

    private static void askingChangesNothing() {
        PathProber x = of(FORK);
        x.note(0, 0, 3, 3);
        due("fits", () -> x.fits(1, 1), 17);
        due("the router goes on as it did", () -> x.probe(0, 0, 3) * 10 + x.probe(1, 0, 3), 23);
        // Odd salts by flow and by goal: at port 1 these go unlike ways.
        due("look", () -> x.look(1, 0, 0) * 10 + x.look(1, 0, 1), 12);
        due("as it did", () -> x.probe(0, 0, 3) * 10 + x.probe(1, 0, 3), 23);
        x.forget();
        due("look at both", () -> x.look(1, 0, 1), 2);
        due("port, use", () -> x.port(0, 1) * 100 + x.use(0, 1), 16);
        due("cover", () -> x.cover(0), 2);
        PathProber y = of("router flow 0 1;router flow 0 1;" + ONE.repeat(4) + "link 0 1;link 0 2;link 1 3;link 1 4;link 2 5;link 3 5;link 4 5;to 5;");
        due("of another router", () -> y.look(1, 0, 1) + y.fits(1, 0), 50);
        due("router 0 as it did", () -> y.probe(0, 0, 2) * 10 + y.probe(1, 0, 2), 12);
    }

    private static void fitsByTurnsAsTheyAre() {
        PathProber x = of(PACKETS);
        x.note(0, 0, 2, 1);
        x.note(1, 0, 2, 1);
        due("ahead of each the turn is the same", () -> x.fits(1, 0), 48);
        due("no turn was taken", () -> x.router(0, 4), 0);
        x.probe(0, 0, 2);
        due("the turn went on", () -> x.fits(1, 0), 0);
        due("for itself it isn't by packet: 16 and 8", () -> x.fits(0, 0), 24);
        x.undo();
        due("and back", () -> x.fits(1, 0), 48);
    }

    private static void lookNext() {
        // Only odd ports come to router 1, where the branches are unlike.
        PathProber x = of("router flow 1 1;router flow 0 1;" + ONE.repeat(5)
                + "link 0 1;link 0 2;link 1 3;link 1 4;link 2 6;link 3 6;link 4 6;to 6;to 0;");
        due("the least of the most unlike", () -> x.look(1, 0, 0), 1);
        due("two", () -> x.look(1, 0, 1), 2);
        due("of like ones the least", () -> x.look(2, 0, 0), 0);
        due("one", () -> x.look(2, 0, 1), 1);
        due("of router 0: 1's two by the port, and 2", () -> x.look(0, 0, 1), 2);
        due("the goal is router 0: none, alike for all", () -> x.look(1, 1, 0) * 10 + x.look(1, 1, 1), 1);
        x.note(1, 0, 3, 3);
        x.note(3, 0, 3, 3);
        // By whatever fits with these all odd ports go by the first branch.
        due("what is noted leaves fewer", () -> x.look(1, 0, 1), 1);
        x.note(1, 0, 3, 4);
        due("none without any", () -> x.look(1, 0, 0), NONE);
        due("none unlike", () -> x.look(1, 0, 1), 0);
        PathProber far = of(ONE + ONE + "to 1;");
        due("lost: none, alike for all", () -> far.look(0, 0, 0) * 10 + far.look(0, 0, 1), 1);
        PathProber near = of(ONE + ONE + "link 0 1;to 1;");
        due("router 0 is the last but one", () -> near.look(1, 0, 1), 1);
        PathProber four = of("router one 0 1;" + ONE.repeat(5) + "link 0 1;link 0 2;link 0 3;link 0 4;link 1 5;link 2 5;link 3 5;link 4 5;to 5;");
        due("four unlike", () -> four.look(0, 0, 1), 4);
        four.note(0, 0, 2, 2);
        // 7 times the port and salts 1, 5, 9, 13 by flow, the same by goal: at port 0 all go by 1; at port 1 by 0 and by 1.
        due("two unlike behind a note", () -> four.look(0, 0, 0) * 10 + four.look(0, 0, 1), 12);
    }

    /** Does by hand what the document says of years, on an object that is as the other one. */
    private static final class Drawn {
        final PathProber x;
        final int goals;
        int seed;
        int probes = 0;

        Drawn(PathProber x, int seed) {
            this.x = x;
            this.seed = seed;
            this.goals = x.count(2);
        }

        int draw(int n) {
            seed = (int) (seed * 1103515245L + 12345L);
            return (seed >>> 16 & 0x7fff) % n;
        }

        void years(int n) {
            for (int i = 0; i < n; i++) {
                int deed = draw(4);
                if (goals == 0) {
                    continue;
                }
                if (deed == 2) {
                    int goal = draw(goals);
                    probes += x.sweep(goal, draw(10) + 1);
                } else {
                    int port = draw(32);
                    int goal = draw(goals);
                    if (deed == 3) {
                        probes += x.trace(port, goal);
                    } else {
                        x.probe(port, goal, draw(10) + 1);
                        probes++;
                    }
                }
            }
        }

        int edges() {
            int edges = 0;
            for (int goal = 0; goal < goals; goal++) {
                for (int h = 1; h <= 10; h++) {
                    edges += x.hop(goal, h, 2);
                }
            }
            return edges;
        }

        int counters() {
            int counters = 0;
            for (int r = 0; r < x.count(0); r++) {
                counters += x.router(r, 5);
            }
            return counters;
        }
    }

    private static void years() {
        String text = "router packet 3 60;router flow 2 59 late;router goal 9 58;router one 0 57 mute;router one 0 56;"
                + "link 0 1;link 0 2;link 0 3;link 1 2;link 1 4;link 2 3;link 2 4;link 3 4;to 4;to 3;to 2;";
        int[] seeds = {0, 1, -1, 12345, Integer.MIN_VALUE, Integer.MAX_VALUE, -1103515245, 987654321};
        for (int seed : seeds) {
            for (int n = 0; n <= 40; n += n < 3 ? 1 : 37) {
                PathProber x = of(text);
                PathProber twin = of(text);
                for (PathProber each : new PathProber[] {x, twin}) {
                    each.trace(4, 0);
                    each.sweep(1, 2);
                }
                Drawn drawn = new Drawn(twin, seed);
                drawn.years(n);
                int years = n;
                due("edges by seed " + seed + ", " + n, () -> x.years(seed, years, 0), drawn.edges());
                due("probes by seed " + seed + ", " + n, () -> x.years(seed, years, 1), drawn.probes);
                due("counters by seed " + seed + ", " + n, () -> x.years(seed, years, 2), drawn.counters());
            }
        }
    }

    private static void yearsOfForty() {
        PathProber x = of(FORK);
        due("n 40", () -> x.years(1, 40, 1) > 40 ? 1 : 0, 1);
        due("n 41", () -> x.years(1, 41, 1), ILLEGAL);
        due("n below 0", () -> x.years(1, -1, 1), ILLEGAL);
        due("what ahead of n", () -> x.years(1, 41, 3), NO_SUCH);
        due("what below 0 too", () -> x.years(1, -1, -1), NO_SUCH);
        due("nothing stays", () -> x.count(8) + x.count(9) + x.count(10) + x.count(16) + x.count(18) + x.router(0, 5), 0);
        PathProber none = of(ONE);
        due("without goals", () -> none.years(5, 40, 0) + none.years(5, 40, 1) + none.years(5, 40, 2), 0);
        PathProber empty = new PathProber();
        due("without routers", () -> empty.years(5, 40, 0) + empty.years(5, 40, 1) + empty.years(5, 40, 2), 0);
    }

    private static void status() {
        PathProber x = of(FORK);
        lay(x, "x");
        x.net(1);
        due("a text with a fault", () -> x.count(13) * 100 + x.count(14) * 10 + x.count(15), 100);
        x.probe(32, 0, 1);
        due("an act", () -> x.count(13) * 100 + x.count(14) * 10 + x.count(15), 110);
        x.note(32, 0, 1, 0);
        due("what is noted", () -> x.count(13) * 100 + x.count(14) * 10 + x.count(15), 111);
        due("net that throws", () -> x.net(1), ILLEGAL);
        due("feeds that don't come", () -> feedTooMuch(x), NONE);
        x.undo();
        x.restore();
        due("questions", () -> x.count(99), NO_SUCH);
        due("these are no refusals", () -> x.count(13) * 100 + x.count(14) * 10 + x.count(15), 111);
    }

    private static int feedTooMuch(PathProber x) {
        int last = 0;
        for (int i = 0; i < 36; i++) {
            last = x.feed(0, 0, 0, 0, 0);
        }
        return last;
    }

    private static void imageKeeps() {
        PathProber x = of(PACKETS);
        x.probe(0, 0, 2);
        x.loss(9);
        x.note(0, 0, 2, 1);
        x.ping(5);
        lay(x, "x");
        x.image();
        x.sweep(0, 2);
        x.trace(3, 0);
        x.clear();
        x.loss(8);
        x.forget();
        x.ping(5);
        x.note(99, 0, 0, 0);
        x.net(1);
        due("restore", () -> x.restore() ? 1 : 0, 1);
        due("seen", () -> x.count(8), 0b10);
        due("sent", () -> x.count(9), 1);
        due("turn", () -> x.router(0, 4), 1);
        due("counters", () -> x.router(0, 5) * 10 + x.router(1, 5), 1);
        due("loss", () -> x.count(3), 9);
        due("enough", () -> x.count(4), 5);
        due("windows", () -> x.count(16) * 10 + x.count(18), 11);
        due("acts", () -> x.count(10), 2);
        due("noted", () -> x.count(11), 1);
        due("status", () -> x.count(13) * 100 + x.count(14) * 10 + x.count(15), 10);
        due("the tape stays as it is", () -> x.count(12), 0);
        due("and the fault's place", x::fault, 0);
        due("what is noted fits as then", () -> x.fits(0, 0), 32);
        due("undo", x::undo, 1);
        due("the loss ahead", () -> x.count(3), 5);
        due("undo again", x::undo, 0);
        due("nothing was sent then", () -> x.count(9), 0);
    }

    private static void imageKeepsWhatIsNoted() {
        PathProber x = of(FORK.replace("to 5;", "to 5;to 4;"));
        x.note(1, 1, 3, 3);
        x.note(2, 1, 3, 2);
        int many = x.fits(1, 0);
        int first = x.fits(1, 1);
        // By flow 20 and an odd salt is odd, 27 and an odd salt is even; by goal both are alike.
        due("eight by flow", () -> many, 8);
        due("the first of an odd salt", () -> first, 17);
        x.image();
        x.forget();
        x.note(0, 0, 10, 6);
        x.note(5, 1, 10, 5);
        x.note(5, 0, 2, 1);
        // By flow 35 and 13 and an odd salt is odd, by goal 13 and an even one.
        due("others", () -> x.fits(1, 0), 16);
        x.restore();
        due("two again", () -> x.count(11), 2);
        due("as they were", () -> x.fits(1, 0), many);
        due("the first again", () -> x.fits(1, 1), first);
    }

    private static void imageOfForty() {
        PathProber x = of(ONE + "to 0;");
        for (int i = 0; i < 50; i++) {
            x.probe(0, 0, 1);
        }
        x.image();
        for (int i = 0; i < 25; i++) {
            x.probe(0, 0, 1);
        }
        due("restore", () -> x.restore() ? 1 : 0, 1);
        due("fifty", () -> x.count(9), 50);
        due("forty are kept", () -> x.count(10), 40);
        for (int left = 39; left >= 0; left--) {
            int due = left;
            due("undo", x::undo, due);
        }
        due("back to ten", () -> x.count(9), 10);
        due("restore again", () -> x.restore() ? 1 : 0, 1);
        due("forty again", () -> x.count(10) * 100 + x.count(9), 4050);
        x.undo();
        x.image();
        due("a newer one in its place", () -> x.restore() ? 1 : 0, 1);
        due("thirty-nine", () -> x.count(10) * 100 + x.count(9), 3949);
    }
}
