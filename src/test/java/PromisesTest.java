/** Each promise with answers that were worked out by hand from the document. */
public final class PromisesTest extends Due {
    /** 0 - 1 < (2, 3) > 4 - 5, shared out by flow at 1: an even port goes by 2. */
    private static final String FORK = "router one 0 7; router flow 0 9; router one 0 5; router one 0 3; router one 0 11;"
            + " router one 0 2; link 0 1; link 1 2; link 1 3; link 2 4; link 3 4; link 4 5; to 5;";
    /** By packet, with a late first router, a mute third one, a short cut past it. */
    private static final String ODD = "router one 0 7 late; router packet 0 9; router one 0 5 mute; router one 0 60;"
            + " link 0 1; link 1 2; link 1 3; link 2 3; to 3; loss 50;";
    private static final String ODD_TO_TWO = ODD + "to 2;";

    public static void main(String[] args) {
        newObject();
        feed();
        net();
        texts();
        count();
        routersAndLinks();
        seenAndHops();
        odds();
        edgesAndDiamonds();
        skew();
        loops();
        truths();
        ports();
        probes();
        goalsAndMutes();
        pings();
        sweepsAndTraces();
        lossAndClear();
        undo();
        notes();
        years();
        images();
        farArguments();
        end();
    }

    private static void newObject() {
        PathProber x = new PathProber();
        long[] counts = {0, 0, 0, 5, 6, 11, 16, 21, 0, 0, 0, 0, 0, 0, 0, 0, 0, 0, 0, 0, 0};
        for (int i = 0; i < counts.length; i++) {
            int what = i;
            due("new count " + what, () -> x.count(what), counts[what]);
        }
        due("new fault", x::fault, -1);
        due("new router", () -> x.router(0, 0), NO_SUCH);
        due("new link", () -> x.link(0, 0), NO_SUCH);
        due("new cover", () -> x.cover(0), NO_SUCH);
        due("new fits", () -> x.fits(0, 0), NO_SUCH);
        due("new same", () -> x.same(0, 0), NO_SUCH);
        due("new undo", x::undo, -1);
        due("new restore", () -> x.restore() ? 1 : 0, 0);
    }

    private static void feed() {
        PathProber x = new PathProber();
        for (int i = 1; i <= 35; i++) {
            int want = 20 * i;
            due("feed " + i, () -> x.feed(0x20202020, 0x20202020, 0x20202020, 0x20202020, 0x20202020), want);
        }
        due("feed beyond 700", () -> x.feed(1, 2, 3, 4, 5), -1);
        due("tape stays", () -> x.count(12), 700);
        due("700 blanks", () -> x.net(700), 0);
        due("tape is empty", () -> x.count(12), 0);
        due("bytes highest first", () -> x.feed(0x6c6f7373, 0x2037373b, 0, 0, 0), 20);
        due("loss 77", () -> x.net(8), 2);
        due("its place", x::fault, 5);
    }

    private static void net() {
        PathProber x = of(FORK);
        lay(x, "to 1;");
        due("n below 0", () -> x.net(-1), ILLEGAL);
        due("n too much", () -> x.net(21), ILLEGAL);
        due("tape stays", () -> x.count(12), 20);
        x.probe(0, 0, 1);
        x.note(0, 0, 1, 0);
        x.image();
        due("a text with a fault", () -> x.net(5), 3);
        due("fault's place", x::fault, 3);
        due("status 0", () -> x.count(13), 1);
        due("all stays", () -> x.count(0) + x.count(9) + x.count(10) + x.count(11), 9);
        due("tape is empty", () -> x.count(12), 0);
        due("n too much for an empty one", () -> x.net(1), ILLEGAL);
        due("place stays", x::fault, 3);
        due("image stays", () -> x.restore() ? 1 : 0, 1);
        lay(x, "router one 0 7;");
        due("a good text", () -> x.net(15), 0);
        due("no fault", x::fault, -1);
        due("all anew", () -> x.count(0) * 1000 + x.count(1) + x.count(2) + x.count(9) + x.count(10) + x.count(11) + x.count(16), 1000);
        due("image is gone", () -> x.restore() ? 1 : 0, 0);
        due("counter anew", () -> x.router(0, 5), 0);
        due("empty text", () -> x.net(0), 0);
        due("no routers", () -> x.count(0), 0);
    }

    private static void texts() {
        String one = "router one 0 7;";
        text("", 0, -1);
        text(" \n ", 0, -1);
        text("router one 0 7", 1, 14);
        text("router one 0 7 ", 1, 15);
        text("router one 0", 1, 12);
        text("router", 1, 6);
        text(" rout", 1, 1);
        text("routers one 0 7;", 1, 0);
        text("Router one 0 7;", 1, 0);
        text("router\tone 0 7;", 1, 6);
        text("router one 0 7\u00e9", 1, 14);
        text(";", 1, 0);
        text(one + ";", 1, 15);
        text("router one0 7mute;link0", 1, 23);
        text("router\none\n15\n60\nlate\n;", 0, -1);
        text("router one 16 7;", 2, 11);
        text("router one 007 7;", 2, 11);
        text("router one 0 0;", 2, 13);
        text("router one 0 61;", 2, 13);
        text("router one 00 07;", 0, -1);
        text("router 100 0 7;", 1, 7);
        text("router one 0 7 100;", 1, 15);
        text("router one 0 7 mute late;", 1, 20);
        text("router one 0 7 one;", 1, 15);
        text(one.repeat(12), 0, -1);
        text(one.repeat(13), 2, 180);
        text(one + "link 12 0;", 2, 20);
        text(one + "link 1 0;", 3, 20);
        text(one + "link 0 1;", 3, 22);
        text(one + "link 0 12;", 2, 22);
        text(one + "link 0 0;", 5, 22);
        text(one + one + "link 1 0;", 5, 37);
        text(one + one + "link 0 1;link 0 1;", 5, 46);
        text(one + "link 0;", 1, 21);
        String four = one.repeat(6) + "link 0 1;link 0 2;link 0 3;link 0 4;";
        text(four + "link 0 5;", 2, 131);
        text(four + "link 0 x", 2, 131);
        text(four + "link 1 5;", 0, -1);
        text(one + "to 0;to 0;", 4, 23);
        text(one + "to 1;", 3, 18);
        text(one.repeat(4) + "to 0;to 1;to 2;", 0, -1);
        text(one.repeat(4) + "to 0;to 1;to 2;to 3;", 2, 75);
        text("loss 0;", 2, 5);
        text("loss 51;", 2, 5);
        text("loss 50;", 0, -1);
        text("loss 1;loss", 4, 7);
        text("loss x;", 1, 5);
        StringBuilder many = new StringBuilder(one.repeat(12));
        for (int i = 0; i < 20; i++) {
            many.append("link ").append(i / 4).append(' ').append(i / 4 + 1 + i % 4).append(';');
        }
        text(many.toString(), 0, -1);
        text(many + "link", 2, 360);
    }

    private static void count() {
        PathProber x = of(FORK);
        due("routers", () -> x.count(0), 6);
        due("links", () -> x.count(1), 6);
        due("goals", () -> x.count(2), 1);
        due("below", () -> x.count(-1), NO_SUCH);
        due("beyond", () -> x.count(21), NO_SUCH);
        // Of two branches one is missed by 1 of 2 to the (n - 1): less than 1 of 100 from 8 on, less than 1 of 2 from 3 on.
        x.loss(1);
        due("enough by 1", () -> x.count(4), 8);
        x.loss(50);
        due("enough by 50", () -> x.count(4), 3);
        due("loss", () -> x.count(3), 50);
        x.trace(0, 0);
        due("addresses", () -> x.count(8), 0b1010111);
        due("probes", () -> x.count(9), 5);
        due("acts", () -> x.count(10), 3);
        due("opened", () -> x.count(16), 6);
        due("open", () -> x.count(17), 0);
        due("deep", () -> x.count(18), 2);
    }

    private static void routersAndLinks() {
        PathProber x = of(ODD_TO_TWO);
        long[] first = {0, 0, 7, 2, 0, 0, 1, -1};
        long[] third = {0, 0, 5, 1, 0, 0, 8, 1};
        for (int i = 0; i < 8; i++) {
            int what = i;
            due("router 0 " + what, () -> x.router(0, what), first[what]);
            due("router 2 " + what, () -> x.router(2, what), third[what]);
        }
        due("kind packet", () -> x.router(1, 0), 2);
        due("goal 0", () -> x.router(3, 7), 0);
        due("router 4", () -> x.router(4, 0), NO_SUCH);
        due("router -1", () -> x.router(-1, 0), NO_SUCH);
        due("router what 8", () -> x.router(0, 8), NO_SUCH);
        due("router what -1", () -> x.router(0, -1), NO_SUCH);
        due("link from", () -> x.link(3, 0), 2);
        due("link to", () -> x.link(3, 1), 3);
        due("link 4", () -> x.link(4, 0), NO_SUCH);
        due("link -1", () -> x.link(-1, 0), NO_SUCH);
        due("link what", () -> x.link(0, 2), NO_SUCH);
        PathProber y = of("router flow 15 60; router goal 3 1;");
        due("kind flow", () -> y.router(0, 0), 1);
        due("salt", () -> y.router(0, 1), 15);
        due("kind goal", () -> y.router(1, 0), 3);
    }

    private static void seenAndHops() {
        PathProber x = of(FORK);
        due("unseen", () -> x.seen(0, 0, 3), -1);
        x.probe(4, 0, 3);
        x.probe(5, 0, 3);
        due("seen by 4", () -> x.seen(4, 0, 3), 2);
        due("seen by 5", () -> x.seen(5, 0, 3), 3);
        due("hop addresses", () -> x.hop(0, 3, 0), 0b1100);
        due("hop sent", () -> x.hop(0, 3, 1), 2);
        due("hop edges without a next hop", () -> x.hop(0, 3, 2), 0);
        x.probe(5, 0, 4);
        due("hop edges", () -> x.hop(0, 3, 2), 1);
        due("hop places", () -> x.hop(0, 4, 3), 0b110000);
        due("hop hidden", () -> x.hop(0, 4, 4), 0b010000);
        due("hop places beyond the way", () -> x.hop(0, 6, 3), 0);
        due("edges at 10", () -> x.hop(0, 10, 2), 0);
        due("hop what", () -> x.hop(0, 3, 5), NO_SUCH);
        due("hop what below", () -> x.hop(0, 3, -1), NO_SUCH);
        due("hop goal", () -> x.hop(1, 3, 0), NO_SUCH);
        due("hop 0", () -> x.hop(0, 0, 0), NO_SUCH);
        due("hop 11", () -> x.hop(0, 11, 0), NO_SUCH);
        due("seen port 32", () -> x.seen(32, 0, 1), NO_SUCH);
        due("seen goal 1", () -> x.seen(0, 1, 1), NO_SUCH);
        due("seen hops 0", () -> x.seen(0, 0, 0), NO_SUCH);
        PathProber y = of(ODD);
        y.probe(0, 0, 3);
        y.probe(0, 0, 3);
        due("by packets the second answers", () -> y.seen(0, 0, 3), 3);
        y.probe(0, 0, 3);
        due("none that answers leaves what was seen", () -> y.seen(0, 0, 3), 3);
        due("sent counts all", () -> y.hop(0, 3, 1), 3);
    }

    private static void odds() {
        PathProber x = of(FORK);
        due("missing 0 1", () -> x.missing(0, 1), WHOLE);
        due("missing 1 1", () -> x.missing(1, 1), 0);
        due("missing 3 2", () -> x.missing(3, 2), WHOLE / 4);
        // Among 3: 1 met, then a third (cut) stays at 1; of 3 probes two ninths meet all.
        due("missing 2 3", () -> x.missing(2, 3), WHOLE);
        due("missing 3 3", () -> x.missing(3, 3), WHOLE - (666666666667L - 444444444444L));
        due("missing 60 5", () -> x.missing(60, 5) < 8000000 ? 1 : 0, 1);
        due("missing n 61", () -> x.missing(61, 2), ILLEGAL);
        due("missing n -1", () -> x.missing(-1, 2), ILLEGAL);
        due("missing m 0", () -> x.missing(1, 0), ILLEGAL);
        due("missing m 6", () -> x.missing(1, 6), ILLEGAL);
        due("sure of nothing", () -> x.sure(0, 3), WHOLE);
        x.probe(0, 0, 3);
        due("sure of 1 by 1", () -> x.sure(0, 3), WHOLE);
        x.probe(0, 0, 3);
        x.probe(2, 0, 3);
        due("sure of 1 by 3", () -> x.sure(0, 3), WHOLE / 4);
        x.probe(1, 0, 3);
        due("sure of 2 by 4", () -> x.sure(0, 3), x.missing(4, 3));
        for (int i = 0; i < 100; i++) {
            x.probe(i % 32, 0, 3);
        }
        due("sure by more than 60", () -> x.sure(0, 3), 0);
        due("sure goal", () -> x.sure(1, 3), NO_SUCH);
        due("sure hops", () -> x.sure(0, 11), NO_SUCH);
    }

    private static void edgesAndDiamonds() {
        PathProber x = of(FORK);
        x.trace(0, 0);
        due("no diamond yet", () -> x.diamond(0, -1, 0), 0);
        x.trace(1, 0);
        due("edge", () -> x.edge(0, 3, 2, 4), 1);
        due("no edge across flows", () -> x.edge(0, 3, 2, 5), 0);
        due("no edge back", () -> x.edge(0, 3, 4, 2), 0);
        due("edge h 10", () -> x.edge(0, 10, 2, 4), NO_SUCH);
        due("edge from 7", () -> x.edge(0, 3, 7, 4), NO_SUCH);
        due("edge to -1", () -> x.edge(0, 3, 2, -1), NO_SUCH);
        due("edge goal", () -> x.edge(1, 3, 2, 4), NO_SUCH);
        due("diamonds", () -> x.diamond(0, -1, 0), 1);
        due("first", () -> x.diamond(0, 0, 0), 2);
        due("last", () -> x.diamond(0, 0, 1), 5);
        due("width", () -> x.diamond(0, 0, 2), 2);
        due("skew", () -> x.diamond(0, 0, 3), 0);
        due("second diamond", () -> x.diamond(0, 1, 0), NO_SUCH);
        due("diamond -2", () -> x.diamond(0, -2, 0), NO_SUCH);
        due("diamond what", () -> x.diamond(0, 0, 4), NO_SUCH);
        due("diamond goal", () -> x.diamond(1, 0, 0), NO_SUCH);
    }

    /** Two diamonds in a row; in the second one address has two edges, its neighbour one. */
    private static void skew() {
        PathProber x = of("router flow 0 1; router one 0 1; router one 0 1; router one 0 1; router flow 0 1;"
                + " router flow 1 1; router one 0 1; router one 0 1; router one 0 1; router one 0 1; router one 0 1; router one 0 1;"
                + " link 0 1; link 0 2; link 1 3; link 2 3; link 3 4; link 4 5; link 4 6; link 5 7; link 5 8; link 6 9;"
                + " link 7 10; link 8 10; link 9 10; link 10 11; to 11;");
        for (int port = 0; port < 32; port++) {
            x.trace(port, 0);
        }
        due("two diamonds", () -> x.diamond(0, -1, 0), 2);
        due("first's first", () -> x.diamond(0, 0, 0), 1);
        due("first's last", () -> x.diamond(0, 0, 1), 4);
        due("first's skew", () -> x.diamond(0, 0, 3), 0);
        due("second's first", () -> x.diamond(0, 1, 0), 4);
        due("second's last", () -> x.diamond(0, 1, 1), 8);
        // Router 5 is only come to by even ports, so it shares nothing out.
        due("second's width", () -> x.diamond(0, 1, 2), 2);
        due("second's skew", () -> x.diamond(0, 1, 3), 0);
        PathProber y = of("router one 0 1; router flow 0 1; router packet 0 1; router one 0 1; router one 0 1; router one 0 1;"
                + " router one 0 1; router one 0 1; router one 0 1;"
                + " link 0 1; link 1 2; link 1 3; link 2 4; link 2 5; link 3 6; link 4 7; link 5 7; link 6 7; link 7 8; to 8;");
        y.trace(0, 0);
        y.trace(1, 0);
        y.probe(2, 0, 3);
        y.probe(2, 0, 4);
        y.probe(4, 0, 3);
        y.probe(4, 0, 5);
        y.probe(4, 0, 4);
        // Port 0 probed router 2's branches by 0, 1, 0 (hops 4, 5, 6); port 2 by 1, so it adds the edge to 5.
        due("width 3", () -> y.diamond(0, 0, 2), 3);
        due("skew 1", () -> y.diamond(0, 0, 3), 1);
    }

    private static void loops() {
        PathProber x = of(ODD);
        due("no loop", () -> x.loop(0, 0, 0), -1);
        due("no reason", () -> x.loop(0, 0, 1), 0);
        x.probe(0, 0, 1);
        x.probe(0, 0, 2);
        due("late one's loop", () -> x.loop(0, 0, 0), 1);
        due("late", () -> x.loop(0, 0, 1), 1);
        due("loop what", () -> x.loop(0, 0, 2), NO_SUCH);
        due("loop port", () -> x.loop(-1, 0, 0), NO_SUCH);
        due("loop goal", () -> x.loop(0, 2, 0), NO_SUCH);
        PathProber y = of(FORK);
        y.probe(0, 0, 6);
        y.probe(0, 0, 7);
        due("the goal's own address is no loop", () -> y.loop(0, 0, 0), -1);
        // By packets once straight, once round: router 2 is met at 2 and at 3 by the address of its own link on.
        PathProber z = of("router packet 0 1; router one 0 1; router one 0 1; router one 0 1; router one 0 1;"
                + " link 0 2; link 0 1; link 1 2; link 2 3; link 3 4; to 4;");
        z.probe(0, 0, 3);
        z.probe(0, 0, 4);
        due("packets' loop", () -> z.loop(0, 0, 0), 3);
        due("by packets", () -> z.loop(0, 0, 1), 2);
    }

    private static void truths() {
        PathProber x = of(ODD_TO_TWO);
        due("ways", () -> x.truth(0, 0), 2);
        due("longest", () -> x.truth(0, 1), 4);
        due("shortest", () -> x.truth(0, 2), 3);
        due("hidden", () -> x.truth(0, 3), 5);
        x.probe(0, 0, 2);
        due("hidden less one", () -> x.truth(0, 3), 4);
        due("ways to the other", () -> x.truth(1, 0), 1);
        due("truth what", () -> x.truth(0, 4), NO_SUCH);
        due("truth goal", () -> x.truth(2, 0), NO_SUCH);
        due("same", () -> x.same(3, 4), 1);
        due("same itself", () -> x.same(0, 0), 1);
        due("not the same", () -> x.same(0, 1), 0);
        due("same 5", () -> x.same(0, 5), NO_SUCH);
        due("same -1", () -> x.same(-1, 0), NO_SUCH);
        PathProber y = of("router one 0 1; router one 0 1; to 0; to 1;");
        due("the first is the goal", () -> y.truth(0, 0), 1);
        due("of one router", () -> y.truth(0, 1) * 10 + y.truth(0, 2), 11);
        due("its place", () -> y.hop(0, 1, 3), 1);
        due("no way", () -> y.truth(1, 0) + y.truth(1, 1) + y.truth(1, 2) + y.truth(1, 3), 0);
        due("no place", () -> y.hop(1, 1, 3), 0);
    }

    private static void ports() {
        PathProber x = of(FORK);
        due("port of 1", () -> x.port(0, 1), 0);
        due("port of 2", () -> x.port(0, 2), 1);
        due("use of 2", () -> x.use(0, 2), 16);
        due("use of 5", () -> x.use(0, 5), 32);
        due("cover", () -> x.cover(0), 2);
        due("port link", () -> x.port(0, 6), NO_SUCH);
        due("port goal", () -> x.port(1, 0), NO_SUCH);
        due("use link", () -> x.use(0, -1), NO_SUCH);
        due("use goal", () -> x.use(-1, 0), NO_SUCH);
        due("cover goal", () -> x.cover(1), NO_SUCH);
        PathProber y = of(ODD_TO_TWO);
        due("packet's first branch", () -> y.port(0, 1), 0);
        due("packet's other branch", () -> y.port(0, 2), -1);
        due("no link of the goal's", () -> y.use(1, 2), 0);
        due("no cover", () -> y.cover(0), -1);
        due("cover of the one way", () -> y.cover(1), 1);
        y.probe(0, 0, 9);
        due("turned", () -> y.port(0, 2), 0);
        due("asking turns nothing", () -> y.router(1, 4), 1);
        PathProber z = of("router one 0 1; to 0;");
        due("nothing to cover", () -> z.cover(0), 0);
    }

    private static void probes() {
        PathProber x = of(FORK);
        due("probe at 0", () -> x.probe(0, 0, 1), 0);
        due("counter of 0", () -> x.router(0, 5), 7);
        due("probe to the goal", () -> x.probe(31, 0, 10), 6);
        due("counter of 5", () -> x.router(5, 5), 2);
        due("counter of those passed", () -> x.router(1, 5), 0);
        due("port 32", () -> x.probe(32, 0, 1), -2);
        due("port -1", () -> x.probe(-1, 0, 1), -2);
        due("goal 1", () -> x.probe(0, 1, 1), -2);
        due("hops 0", () -> x.probe(0, 0, 0), -2);
        due("hops 11", () -> x.probe(0, 0, 11), -2);
        due("refused", () -> x.count(14), 5);
        due("acts", () -> x.count(10), 2);
        due("deep", () -> x.count(18), 1);
        PathProber y = of(ODD);
        due("late sends on", () -> y.probe(0, 0, 1), 1);
        for (int i = 0; i < 60; i++) {
            y.probe(0, 0, 9);
        }
        due("turn wraps at 60", () -> y.router(1, 4), 0);
        due("counter wraps at 256", () -> y.router(3, 5), 60 * 60 % 256);
        PathProber z = of("router goal 1 1; router one 0 1; router one 0 1; link 0 1; link 0 2; link 1 2; to 2; to 1;");
        due("by goal: 1 MOD 2", () -> z.probe(9, 0, 2), 2);
        due("by goal: only one branch", () -> z.probe(9, 1, 2), 1);
        PathProber lost = of("router one 0 1 late; router one 0 1; to 1;");
        due("lost", () -> lost.probe(0, 0, 1), -1);
        due("lost is counted", () -> lost.count(20), 1);
        due("not as mute", () -> lost.count(19), 0);
        due("lost is sent", () -> lost.count(9) + lost.count(16), 2);
    }

    private static void goalsAndMutes() {
        PathProber x = of("router one 0 1; router one 0 1 mute; router one 0 5 mute; link 0 1; link 1 2; to 2;");
        due("mute", () -> x.probe(0, 0, 2), -1);
        due("mute is counted", () -> x.count(19), 1);
        due("its counter stays", () -> x.router(1, 5), 0);
        due("a goal's answers", () -> x.probe(0, 0, 3), 2);
        PathProber y = of(ODD_TO_TWO);
        due("that of another goal too", () -> y.probe(0, 0, 3), 2);
    }

    private static void pings() {
        PathProber x = of(FORK);
        due("unseen", () -> x.ping(0), -1);
        x.trace(0, 0);
        due("ping", () -> x.ping(0), 14);
        due("ping again", () -> x.ping(0), 21);
        due("ping of none", () -> x.ping(7), -1);
        due("ping below", () -> x.ping(-1), -1);
        due("refused", () -> x.count(14), 3);
        due("opened stays", () -> x.count(16), 6);
        due("acts", () -> x.count(10), 3);
        due("twins of one", () -> x.twins(2, 2), -1);
        due("twins unseen", () -> x.twins(2, 3), -1);
        x.trace(1, 0);
        due("twins", () -> x.twins(4, 5), 1);
        due("six pings", () -> x.router(4, 5), 8 * 11);
        due("not twins", () -> x.twins(0, 6), 0);
        due("refused", () -> x.count(14), 5);
        PathProber y = of("router one 0 60; router one 0 60; link 0 1; to 1;");
        y.probe(0, 0, 1);
        y.probe(0, 0, 2);
        y.ping(1);
        // 120, 180, 180, ..: the third is 0 more than the one ahead.
        due("0 more", () -> y.twins(0, 1), 0);
        PathProber z = of("router one 0 60; router one 0 60; link 0 1; to 1;");
        z.probe(0, 0, 1);
        z.probe(0, 0, 2);
        z.ping(1);
        z.ping(1);
        // 120, 240, then 180 is 196 more MOD 256.
        due("too much more", () -> z.twins(0, 1), 0);
        PathProber v = of("router one 0 10; router one 0 9; link 0 1; to 1;");
        v.probe(0, 0, 1);
        v.probe(0, 0, 2);
        v.ping(1);
        v.image();
        // 20, 27, 30, 36, 40, 45: told to be one, though they aren't; by the other first it is 27, then 20.
        due("told to be twins", () -> v.twins(0, 1), 1);
        due("three pings each", () -> v.router(0, 5) * 1000 + v.router(1, 5), 40045);
        v.restore();
        due("by the other first", () -> v.twins(1, 0), 0);
        PathProber u = of("router flow 0 1; router one 0 1; router one 0 1; link 0 1; link 0 2; link 1 2; to 2;");
        u.trace(0, 0);
        u.trace(1, 0);
        due("each 1 more", () -> u.twins(2, 3), 1);
        PathProber w = of("router one 0 1; router one 0 60 mute; router packet 0 3; router packet 0 7; link 0 1; link 1 2; link 1 3; to 2; to 3;");
        w.trace(0, 0);
        due("a mute one is not seen", () -> w.ping(1), -1);
        due("its status", () -> w.count(14), 1);
    }

    private static void sweepsAndTraces() {
        PathProber x = of(FORK);
        due("one address", () -> x.sweep(0, 2), 6);
        due("two addresses", () -> x.sweep(0, 3), 11);
        due("opened", () -> x.count(16), 19);
        due("deep", () -> x.count(18), 2);
        due("seen up to", () -> x.seen(10, 0, 3), 2);
        due("not beyond", () -> x.seen(11, 0, 3), -1);
        due("sweep goal", () -> x.sweep(1, 3), -1);
        due("sweep hops", () -> x.sweep(0, 0), -1);
        due("trace", () -> x.trace(3, 0), 5);
        due("trace port", () -> x.trace(32, 0), -1);
        due("trace goal", () -> x.trace(0, -1), -1);
        due("refused", () -> x.count(14), 4);
        due("acts", () -> x.count(10), 3);
        PathProber y = of("router one 0 1; router one 0 1; to 1; loss 1;");
        due("none answers", () -> y.sweep(0, 2), 8);
        due("trace of ten", () -> y.trace(0, 0), 10);
        PathProber z = of("router packet 0 1; router one 0 1; router one 0 1; router one 0 1; router one 0 1; router one 0 1;"
                + " link 0 1; link 0 2; link 0 3; link 0 4; link 1 5; link 2 5; link 3 5; link 4 5; to 5; loss 1;");
        due("four addresses", () -> z.sweep(0, 2), z.count(7));
        due("the first is the goal", () -> of("router one 0 1 mute; to 0;").trace(0, 0), 1);
    }

    private static void lossAndClear() {
        PathProber x = of(FORK);
        due("loss", () -> x.loss(50), 5);
        due("loss again", () -> x.loss(50), 50);
        due("loss 0", () -> x.loss(0), -1);
        due("loss 51", () -> x.loss(51), -1);
        due("refused", () -> x.count(14), 2);
        x.trace(0, 0);
        due("clear", x::clear, 5);
        due("seen", () -> x.count(8), 0);
        due("sent", () -> x.count(9), 0);
        due("opened stays", () -> x.count(16), 6);
        due("counters stay", () -> x.router(0, 5), 7);
        due("clear of nothing", x::clear, 0);
        due("acts", () -> x.count(10), 5);
    }

    private static void undo() {
        PathProber x = of(ODD);
        x.loss(7);
        x.trace(0, 0);
        due("turn", () -> x.router(1, 4) > 0 ? 1 : 0, 1);
        x.ping(1);
        x.clear();
        due("clear undone", x::undo, 3);
        due("seen again", () -> x.seen(0, 0, 1), 1);
        int pinged = x.router(1, 5);
        due("ping undone", x::undo, 2);
        due("its counter", () -> x.router(1, 5), (pinged - 9 + 256) % 256);
        due("trace undone", x::undo, 1);
        due("all it changed", () -> x.count(8) + x.count(9) + x.count(16) + x.count(18) + x.count(19) + x.router(1, 4) + x.router(1, 5), 0);
        due("loss undone", x::undo, 0);
        due("loss", () -> x.count(3), 50);
        due("none is left", x::undo, -1);
        due("not as refused", () -> x.count(14), 0);
        for (int i = 1; i <= 45; i++) {
            x.loss(i);
        }
        due("at most 40", () -> x.count(10), 40);
        for (int i = 39; i >= 0; i--) {
            due("undo " + i, x::undo, i);
        }
        due("the oldest are gone", () -> x.count(3), 5);
        x.probe(0, 0, 99);
        x.note(0, 0, 1, 0);
        due("what is refused or noted is no act", x::undo, -1);
        due("noted stays", () -> x.count(11), 1);
    }

    private static void notes() {
        PathProber x = of(FORK);
        due("all fit", () -> x.fits(1, 0), 48);
        due("first", () -> x.fits(1, 1), 0);
        due("look at port 0", () -> x.look(1, 0, 0), 0);
        due("both by these", () -> x.look(1, 0, 1), 2);
        due("note", () -> x.note(1, 0, 3, 3), 1);
        // By flow 8 even salts (7 and salt is odd), by goal 8 odd ones.
        due("16 fit", () -> x.fits(1, 0), 16);
        due("first by flow", () -> x.fits(1, 1), 16);
        due("note the other port", () -> x.note(0, 0, 3, 2), 2);
        due("only by flow", () -> x.fits(1, 0), 8);
        due("nothing more to tell", () -> x.look(1, 0, 1), 1);
        due("the least port", () -> x.look(1, 0, 0), 0);
        due("against it", () -> x.note(2, 0, 3, 3), 3);
        due("none fit", () -> x.fits(1, 0), 0);
        due("no first", () -> x.fits(1, 1), -1);
        due("look nowhere", () -> x.look(1, 0, 0), -1);
        due("none unlike", () -> x.look(1, 0, 1), 0);
        due("port", () -> x.note(32, 0, 3, 3), -1);
        due("goal", () -> x.note(0, 1, 3, 3), -1);
        due("hops", () -> x.note(0, 0, 11, 3), -1);
        due("address", () -> x.note(0, 0, 3, 7), -1);
        for (int i = 4; i <= 8; i++) {
            due("note " + i, () -> x.note(0, 0, 1, 0), x.count(11) + 1);
        }
        due("nine", () -> x.note(0, 0, 1, 0), -1);
        due("refused", () -> x.count(15), 5);
        x.forget();
        due("forgotten", () -> x.count(11), 0);
        due("all fit again", () -> x.fits(1, 0), 48);
        due("fits router", () -> x.fits(6, 0), NO_SUCH);
        due("fits what", () -> x.fits(0, 2), NO_SUCH);
        due("look router", () -> x.look(-1, 0, 0), NO_SUCH);
        due("look goal", () -> x.look(0, 1, 0), NO_SUCH);
        due("look what", () -> x.look(0, 0, 2), NO_SUCH);
        PathProber y = of(ODD);
        y.note(0, 0, 4, 3);
        // The packet router's turn is 0, so as it is all would go by router 2.
        due("other routers as they are", () -> y.fits(0, 0), 0);
        due("for the packet one itself: odd by flow and goal", () -> y.fits(1, 0), 16);
        y.probe(0, 0, 9);
        due("as turns are", () -> y.fits(0, 0), 48);
        due("turns stay", () -> y.router(1, 4), 1);
        PathProber z = of("router one 0 1; to 0;");
        due("no last but one", () -> z.look(0, 0, 1), 1);
    }

    private static void years() {
        PathProber x = of(FORK);
        due("what 3", () -> x.years(1, 41, 3), NO_SUCH);
        due("what -1", () -> x.years(1, 0, -1), NO_SUCH);
        due("n 41", () -> x.years(1, 41, 0), ILLEGAL);
        due("n -1", () -> x.years(1, -1, 0), ILLEGAL);
        due("no years", () -> x.years(1, 0, 0) + x.years(1, 0, 1) + x.years(1, 0, 2), 0);
        // Seed 0 becomes 12345 (a draw of 0: a probe), -1043980748 (bits 16 to 30: 16838), .. as in the sum below.
        int seed = 0;
        int[] draws = new int[4];
        for (int i = 0; i < 4; i++) {
            seed = seed * 1103515245 + 12345;
            draws[i] = (seed >> 16) & 32767;
        }
        due("first draw of 4", () -> draws[0] % 4, 0);
        PathProber twin = of(FORK);
        twin.probe(draws[1] % 32, draws[2] % 1, draws[3] % 10 + 1);
        int counters = 0;
        for (int r = 0; r < 6; r++) {
            counters += twin.router(r, 5);
        }
        int sum = counters;
        due("one year's probes", () -> x.years(0, 1, 1), 1);
        due("one year's counters", () -> x.years(0, 1, 2), sum);
        due("one year's edges", () -> x.years(0, 1, 0), 0);
        int forty = x.years(5, 40, 1);
        due("nothing stays of years", () -> x.count(8) + x.count(9) + x.count(10) + x.count(16) + x.count(18) + x.router(0, 5), 0);
        due("the same again", () -> x.years(5, 40, 1), forty);
        due("edges at most all", () -> x.years(5, 40, 0) > 0 && x.years(5, 40, 0) <= 7 ? 1 : 0, 1);
        PathProber none = of("router one 0 1;");
        due("without goals", () -> none.years(9, 40, 1) + none.years(9, 40, 2), 0);
    }

    private static void images() {
        PathProber x = of(ODD);
        x.probe(0, 0, 3);
        x.note(0, 0, 1, 1);
        x.probe(0, 0, 0);
        x.image();
        x.trace(0, 0);
        x.loss(9);
        x.note(0, 0, 2, 1);
        x.note(0, 9, 2, 1);
        x.probe(0, 0, 0);
        lay(x, "x");
        x.net(1);
        for (int i = 0; i < 2; i++) {
            due("restore", () -> x.restore() ? 1 : 0, 1);
            due("sent", () -> x.count(9), 1);
            due("loss", () -> x.count(3), 50);
            due("opened", () -> x.count(16), 1);
            due("acts", () -> x.count(10), 1);
            due("noted", () -> x.count(11), 1);
            due("status", () -> x.count(13) * 100 + x.count(14) * 10 + x.count(15), 10);
            due("turn", () -> x.router(1, 4), 1);
            due("undo behind it", x::undo, 0);
            due("sent", () -> x.count(9), 0);
        }
        x.loss(1);
        x.image();
        x.loss(2);
        due("restore the newer one", () -> x.restore() ? 1 : 0, 1);
        due("its loss", () -> x.count(3), 1);
    }

    private static void farArguments() {
        int[] far = {Integer.MIN_VALUE, -1000000, -2, 1000000, Integer.MAX_VALUE};
        for (int n : far) {
            PathProber x = of(FORK);
            due("net", () -> x.net(n), ILLEGAL);
            due("missing", () -> x.missing(n, n), ILLEGAL);
            due("count", () -> x.count(n), NO_SUCH);
            due("router", () -> x.router(n, n), NO_SUCH);
            due("link", () -> x.link(n, n), NO_SUCH);
            due("seen", () -> x.seen(n, n, n), NO_SUCH);
            due("hop", () -> x.hop(n, n, n), NO_SUCH);
            due("sure", () -> x.sure(n, n), NO_SUCH);
            due("edge", () -> x.edge(0, 1, n, n), NO_SUCH);
            due("diamond", () -> x.diamond(0, n, 0), NO_SUCH);
            due("loop", () -> x.loop(0, 0, n), NO_SUCH);
            due("truth", () -> x.truth(0, n), NO_SUCH);
            due("same", () -> x.same(0, n), NO_SUCH);
            due("port", () -> x.port(0, n), NO_SUCH);
            due("use", () -> x.use(0, n), NO_SUCH);
            due("cover", () -> x.cover(n), NO_SUCH);
            due("fits", () -> x.fits(n, 0), NO_SUCH);
            due("look", () -> x.look(n, 0, 0), NO_SUCH);
            due("years", () -> x.years(n, n, 0), ILLEGAL);
            due("probe", () -> x.probe(0, 0, n), -2);
            due("ping", () -> x.ping(n), -1);
            due("sweep", () -> x.sweep(0, n), -1);
            due("trace", () -> x.trace(n, 0), -1);
            due("twins", () -> x.twins(0, n), -1);
            due("loss", () -> x.loss(n), -1);
            due("note", () -> x.note(0, 0, 1, n), -1);
            due("refused", () -> x.count(14) * 10 + x.count(15), 61);
        }
    }
}
