/** 'Terms', part 2: how probes go, who answers, what is seen, windows, odds, sweeps, traces, twins, acts, at their bounds. */
public final class ProbeEdgesTest extends Due {
    private static final String LATE = "router one 0 1 late;";
    private static final String MUTE = "router one 0 1 mute;";
    /** Router 0 has a branch to each of 1 to 4, and these all lead to 5, which is goal 2; 1 and 2 are goals 0 and 1. */
    private static final String FOUR_BEHIND = ONE.repeat(5) + "link 0 1;link 0 2;link 0 3;link 0 4;"
            + "link 1 5;link 2 5;link 3 5;link 4 5;to 1;to 2;to 5;";
    /** By packets to one of two, each of which is the goal's neighbour. */
    private static final String PACKETS = "router packet 0 1;" + ONE.repeat(3) + "link 0 1;link 0 2;link 1 3;link 2 3;to 3;";
    /** 0 - 1 < (2, 3) > 4 - 5, shared out by flow at 1: an even port goes by 2. */
    private static final String FORK = ONE + "router flow 0 1;" + ONE.repeat(4)
            + "link 0 1;link 1 2;link 1 3;link 2 4;link 3 4;link 4 5;to 5;";

    public static void main(String[] args) {
        branchesLeadToTheGoal();
        endsAtTheGoal();
        endsWhenNoHopIsLeft();
        lateGoesOnByOneLink();
        byOneTheFirst();
        byFlow();
        byGoal();
        byPacketAndItsTurn();
        turnsWrapAt60();
        onlyWhoGoesOnTurns();
        withoutBranchesLost();
        muteDoesNotAnswer();
        countersWrapAt256();
        pingsOfWhatWasSeen();
        seenIsTheLast();
        sentCountsAll();
        edges();
        edgesOfTheHighestAddress();
        everyGoalAndPort();
        undoneAreMuteAndLostToo();
        windows();
        enoughIsLessThan();
        missing();
        sweeps();
        traces();
        twinsByTheirSteps();
        actsAreAtMostForty();
        eachActIsOne();
        end();
    }

    private static void branchesLeadToTheGoal() {
        // Link 0 leads nowhere, so of three links two are branches.
        PathProber x = of("router flow 0 1;" + ONE.repeat(3) + "link 0 1;link 0 2;link 0 3;link 2 3;to 3;to 1;");
        due("the first branch is link 1", () -> x.probe(0, 0, 2), 2);
        due("the second is link 2", () -> x.probe(1, 0, 2), 3);
        due("MOD 2, not MOD 3", () -> x.probe(2, 0, 2), 2);
        due("for the other goal there is one", () -> x.probe(1, 1, 2), 1);
        due("of the links all three", () -> x.router(0, 6), 0b111);
    }

    private static void endsAtTheGoal() {
        PathProber x = of(chain(3) + "to 1;to 0;");
        due("hops enough just so", () -> x.probe(0, 0, 2), 1);
        due("hops too many", () -> x.probe(0, 0, 3), 1);
        due("hops far too many", () -> x.probe(0, 0, 10), 1);
        due("router 0 is the goal's", () -> x.probe(0, 1, 1), 0);
        due("router 0, ten hops", () -> x.probe(0, 1, 10), 0);
        PathProber y = of(LATE + ONE + "link 0 1;to 0;");
        due("a late one that is the goal's sends nothing on", () -> y.probe(0, 0, 1), 0);
    }

    private static void endsWhenNoHopIsLeft() {
        PathProber x = of(chain(12) + "to 11;");
        for (int h = 1; h <= 10; h++) {
            int hops = h;
            due("hops " + h, () -> x.probe(0, 0, hops), h - 1);
        }
        due("whoever was passed doesn't answer", () -> x.router(0, 5), 1);
        due("the goal is too far", () -> x.router(11, 5), 0);
    }

    private static void lateGoesOnByOneLink() {
        PathProber x = of(LATE + LATE + ONE + ONE + row(0, 3) + "to 3;");
        due("a late one behind a late one ends it", () -> x.probe(0, 0, 1), 1);
        due("the second late one", () -> x.probe(0, 0, 2), 2);
        due("no late one", () -> x.probe(0, 0, 3), 2);
        due("to the goal", () -> x.probe(0, 0, 4), 3);
        due("the late one itself never answers", () -> x.router(0, 5), 0);
        PathProber y = of(ONE + LATE + ONE + row(0, 2) + "to 2;");
        due("a late one ahead of the goal", () -> y.probe(0, 0, 2), 2);
        due("hops to spare", () -> y.probe(0, 0, 3), 2);
        PathProber z = of(LATE + MUTE + ONE + row(0, 2) + "to 2;");
        due("on to a mute one", () -> z.probe(0, 0, 1), NONE);
        due("which is told so", () -> z.count(19), 1);
        due("none is lost", () -> z.count(20), 0);
    }

    private static void byOneTheFirst() {
        PathProber x = of("router one 15 1;" + FOUR_BEHIND);
        due("whatever the port", () -> x.probe(31, 2, 2), 1);
        due("and whatever was sent", () -> x.probe(31, 2, 2), 1);
        due("no turn", () -> x.router(0, 4), 0);
    }

    private static void byFlow() {
        PathProber x = of("router flow 15 1;" + FOUR_BEHIND);
        // 7 times the port, 26 and 15: 41, 48, 55, 62, .. 258.
        due("41 MOD 4", () -> x.probe(0, 2, 2), 2);
        due("48 MOD 4", () -> x.probe(1, 2, 2), 1);
        due("55 MOD 4", () -> x.probe(2, 2, 2), 4);
        due("62 MOD 4", () -> x.probe(3, 2, 2), 3);
        due("258 MOD 4", () -> x.probe(31, 2, 2), 3);
        due("MOD 1", () -> x.probe(2, 0, 2), 1);
        due("the same again", () -> x.probe(2, 2, 2), 4);
        PathProber y = of("router flow 1 1;" + ONE.repeat(4) + "link 0 1;link 0 2;link 0 3;link 1 4;link 2 4;link 3 4;to 0;to 4;");
        // 7 times the port, 13 and 1: 14, 21, 28.
        due("14 MOD 3", () -> y.probe(0, 1, 2), 3);
        due("21 MOD 3", () -> y.probe(1, 1, 2), 1);
        due("28 MOD 3", () -> y.probe(2, 1, 2), 2);
    }

    private static void byGoal() {
        PathProber x = of("router goal 15 1;" + FOUR_BEHIND);
        due("26 and 15 MOD 4", () -> x.probe(0, 2, 2), 2);
        due("whatever the port", () -> x.probe(31, 2, 2), 2);
        due("no turn", () -> x.router(0, 4), 0);
        PathProber y = of("router goal 0 1;" + ONE.repeat(2) + "link 0 1;link 0 2;link 1 2;to 0;to 2;to 1;");
        due("13 MOD 2", () -> y.probe(4, 1, 2), 2);
    }

    private static void byPacketAndItsTurn() {
        PathProber x = of("router packet 15 1;" + FOUR_BEHIND);
        for (int i = 0; i < 9; i++) {
            int due = i % 4 + 1;
            due("turn " + i, () -> x.probe(31, 2, 2), due);
        }
        due("turns", () -> x.router(0, 4), 9);
        due("one branch", () -> x.probe(0, 0, 2), 1);
        due("turns with one branch too", () -> x.router(0, 4), 10);
        due("turns are the router's, not the goal's", () -> x.probe(0, 2, 2), 3);
    }

    private static void turnsWrapAt60() {
        PathProber x = of(PACKETS);
        for (int i = 0; i < 59; i++) {
            x.probe(0, 0, 2);
        }
        due("59", () -> x.router(0, 4), 59);
        due("the last turn", () -> x.probe(0, 0, 2), 2);
        due("0 again", () -> x.router(0, 4), 0);
        due("the first branch", () -> x.probe(0, 0, 2), 1);
        due("1", () -> x.router(0, 4), 1);
    }

    private static void onlyWhoGoesOnTurns() {
        PathProber x = of(PACKETS);
        x.probe(0, 0, 1);
        due("it ended there", () -> x.router(0, 4), 0);
        PathProber y = of("router packet 0 1 late;" + ONE.repeat(2) + "link 0 1;link 0 2;link 1 2;to 2;to 0;");
        y.probe(0, 0, 1);
        due("a late one sent it on", () -> y.router(0, 4), 1);
        y.probe(0, 1, 10);
        due("the goal's own doesn't", () -> y.router(0, 4), 1);
        PathProber z = of("router packet 0 1;" + ONE + "to 1;");
        z.probe(0, 0, 2);
        due("nor where it is lost", () -> z.router(0, 4), 0);
    }

    private static void withoutBranchesLost() {
        PathProber x = of(ONE + ONE + "to 1;");
        due("ends ahead of it", () -> x.probe(0, 0, 1), 0);
        due("none is lost yet", () -> x.count(20), 0);
        due("lost", () -> x.probe(0, 0, 2), NONE);
        due("is told so", () -> x.count(20), 1);
        due("nobody was mute", () -> x.count(19), 0);
        due("it was sent", () -> x.hop(0, 2, 1), 1);
        due("nothing is seen", () -> x.seen(0, 0, 2), NONE);
        due("no counter went on", () -> x.router(0, 5), 1);
        PathProber y = of(LATE + ONE + "to 1;");
        due("a late one has nowhere to send it", () -> y.probe(0, 0, 1), NONE);
        due("lost there", () -> y.count(20), 1);
        PathProber z = of("router one 0 1 mute;" + ONE + "to 1;");
        due("lost at a mute one", () -> z.probe(0, 0, 2), NONE);
        due("is lost, not mute", () -> z.count(20) * 10 + z.count(19), 10);
        due("mute ahead of it", () -> z.probe(0, 0, 1), NONE);
        due("is mute, not lost", () -> z.count(20) * 10 + z.count(19), 11);
    }

    private static void muteDoesNotAnswer() {
        PathProber x = of(MUTE + MUTE + "router one 0 9 mute;" + row(0, 2) + "to 2;");
        due("the first", () -> x.probe(0, 0, 1), NONE);
        due("the second", () -> x.probe(0, 0, 2), NONE);
        due("two so far", () -> x.count(19), 2);
        due("no counter went on", () -> x.router(0, 5) + x.router(1, 5), 0);
        due("sent nevertheless", () -> x.count(9), 2);
        due("not seen", () -> x.count(8), 0);
        due("a goal's answers", () -> x.probe(0, 0, 3), 2);
        due("its counter", () -> x.router(2, 5), 9);
        due("still two", () -> x.count(19), 2);
        due("a mute one that was seen is pinged", () -> x.ping(2), 18);
        PathProber y = of(ONE + MUTE + ONE + row(0, 2) + "to 2;to 1;");
        due("a goal's, though not this goal's", () -> y.probe(0, 0, 2), 1);
    }

    private static void countersWrapAt256() {
        PathProber x = of("router one 0 32;to 0;");
        for (int i = 1; i <= 7; i++) {
            x.probe(0, 0, 1);
        }
        due("224", () -> x.router(0, 5), 224);
        due("256 is 0", () -> x.ping(0), 0);
        due("then 32", () -> x.ping(0), 32);
        PathProber y = of("router one 0 60;to 0;");
        y.probe(0, 0, 1);
        y.ping(0);
        y.ping(0);
        due("240", () -> y.ping(0), 240);
        due("300 is 44", () -> y.ping(0), 44);
        PathProber z = of("router one 0 1;to 0;");
        z.probe(0, 0, 1);
        for (int i = 2; i < 255; i++) {
            z.ping(0);
        }
        due("255 stays", () -> z.ping(0), 255);
        due("then 0", () -> z.ping(0), 0);
    }

    private static void pingsOfWhatWasSeen() {
        PathProber x = of(PACKETS);
        due("nothing was", () -> x.ping(0), NONE);
        x.probe(0, 0, 2);
        due("this was", () -> x.ping(1), 2);
        due("this wasn't", () -> x.ping(0), NONE);
        due("nor this", () -> x.ping(2), NONE);
        x.probe(0, 0, 3);
        x.probe(0, 0, 3);
        due("of two addresses of one router this one", () -> x.ping(3), 3);
        due("not the other, which was written over", () -> x.ping(4), NONE);
        due("refused", () -> x.count(14), 4);
        due("pings are no probes", () -> x.count(9), 3);
        due("they see nothing", () -> x.count(8), x.hop(0, 2, 0) | x.hop(0, 3, 0));
        x.clear();
        due("it was forgotten", () -> x.ping(1), NONE);
        x.undo();
        due("it is seen again", () -> x.ping(1), 3);
    }

    private static void seenIsTheLast() {
        PathProber x = of(PACKETS);
        due("none first", () -> x.seen(0, 0, 2), NONE);
        x.probe(0, 0, 2);
        due("the first", () -> x.seen(0, 0, 2), 1);
        x.probe(0, 0, 2);
        due("the last", () -> x.seen(0, 0, 2), 2);
        due("not at another hop", () -> x.seen(0, 0, 1), NONE);
        due("not of another port", () -> x.seen(1, 0, 2), NONE);
        due("the address that was written over isn't at the hop", () -> x.hop(0, 2, 0), 0b100);
        due("nor anywhere", () -> x.count(8), 0b100);
        PathProber y = of(ONE + ONE + "link 0 1;to 1;to 0;");
        y.probe(31, 0, 10);
        due("the last port, the last hop", () -> y.seen(31, 0, 10), 1);
        due("not of another goal", () -> y.seen(31, 1, 10), NONE);
        // The highest address that there can be.
        StringBuilder many = new StringBuilder(ONE.repeat(12));
        for (int i = 0; i < 19; i++) {
            many.append("link ").append(i / 4).append(' ').append(i / 4 + 1 + i % 4).append(';');
        }
        PathProber z = of(many + "link 7 11;to 0;to 1;to 11;");
        due("address 20", () -> z.probe(0, 2, 10), 20);
        due("address 20 is seen", () -> z.seen(0, 2, 10), 20);
        due("as a bit", () -> z.count(8), 1 << 20);
        due("and pinged", () -> z.ping(20), 2);
    }

    private static void sentCountsAll() {
        PathProber x = of(ONE + MUTE + ONE + row(0, 2) + ONE + "to 2;to 3;");
        x.probe(0, 0, 2);
        x.probe(5, 0, 2);
        x.probe(5, 0, 3);
        x.probe(0, 1, 2);
        due("by any port, answered or not", () -> x.hop(0, 2, 1), 2);
        due("by hops", () -> x.hop(0, 3, 1), 1);
        due("by goals, lost ones too", () -> x.hop(1, 2, 1), 1);
        due("none", () -> x.hop(1, 3, 1), 0);
        due("together", () -> x.count(9), 4);
    }

    private static void edges() {
        PathProber x = of(FORK);
        x.probe(0, 0, 2);
        x.probe(1, 0, 3);
        due("not by two flows", () -> x.hop(0, 2, 2), 0);
        x.probe(0, 0, 3);
        due("by one", () -> x.edge(0, 2, 1, 2), 1);
        x.probe(2, 0, 2);
        x.probe(2, 0, 3);
        due("each once", () -> x.hop(0, 2, 2), 1);
        x.probe(1, 0, 2);
        due("another one", () -> x.hop(0, 2, 2), 2);
        x.probe(0, 0, 9);
        x.probe(0, 0, 10);
        due("not to the same", () -> x.hop(0, 9, 2), 0);
        due("not to the same, asked", () -> x.edge(0, 9, 6, 6), 0);
        PathProber y = of(chain(12) + "to 11;");
        y.probe(0, 0, 9);
        y.probe(0, 0, 10);
        due("from 9 to 10", () -> y.edge(0, 9, 8, 9), 1);
        due("it counts at 9", () -> y.hop(0, 9, 2), 1);
        due("not at 10", () -> y.hop(0, 10, 2), 0);
        due("not at 8", () -> y.hop(0, 8, 2), 0);
        y.probe(0, 0, 6);
        due("not over a gap", () -> y.hop(0, 6, 2) + y.hop(0, 7, 2), 0);
        y.probe(0, 0, 1);
        y.probe(0, 0, 2);
        due("from address 0", () -> y.hop(0, 1, 2), 1);
        due("from address 0, asked", () -> y.edge(0, 1, 0, 1), 1);
    }

    /** Twelve routers, twenty links, the last of which is the only one from router 0: by address 20 lies all else. */
    private static void edgesOfTheHighestAddress() {
        StringBuilder text = new StringBuilder(ONE + "router flow 0 1;" + ONE.repeat(10));
        for (int from = 1; from <= 4; from++) {
            for (int to = from + 1; to <= from + 4; to++) {
                text.append("link ").append(from).append(' ').append(to).append(';');
            }
        }
        PathProber x = of(text + "link 8 9;link 9 10;link 10 11;link 0 1;to 11;");
        due("twenty links", () -> x.count(1), 20);
        due("its place", () -> x.hop(0, 2, 3), 1 << 20);
        // Router 5 leads nowhere, so three of the four links from router 1 are branches.
        due("the places behind it", () -> x.hop(0, 3, 3), 0b1110);
        for (int port = 0; port < 4; port++) {
            x.trace(port, 0);
        }
        due("an edge to it", () -> x.edge(0, 1, 0, 20), 1);
        due("an edge from it", () -> x.edge(0, 2, 20, 3), 1);
        due("all from it", () -> x.hop(0, 2, 2), 3);
        due("a diamond begins there", () -> x.diamond(0, 0, 0), 2);
        due("no loop", () -> x.loop(0, 0, 0), NONE);
    }

    private static void everyGoalAndPort() {
        PathProber x = of("router one 0 1;router one 0 1;router one 0 1;" + row(0, 2) + "to 0;to 1;to 2;");
        x.probe(31, 1, 10);
        x.probe(31, 2, 10);
        x.probe(31, 0, 10);
        due("sent to all goals", () -> x.count(9), 3);
        due("seen by the last port of each", () -> x.seen(31, 0, 10) * 100 + x.seen(31, 1, 10) * 10 + x.seen(31, 2, 10), 12);
        due("all forgotten", x::clear, 3);
        due("seen of goal 1", () -> x.seen(31, 1, 10), NONE);
        due("seen of goal 2", () -> x.seen(31, 2, 10), NONE);
        due("sent to goal 2", () -> x.hop(2, 10, 1), 0);
        x.undo();
        due("seen again", () -> x.seen(31, 0, 10) * 100 + x.seen(31, 1, 10) * 10 + x.seen(31, 2, 10), 12);
        due("sent again", () -> x.hop(2, 10, 1) + x.hop(1, 10, 1), 2);
        x.undo();
        x.undo();
        due("not to goal 2 yet", () -> x.seen(31, 2, 10), NONE);
        due("but to goal 1", () -> x.seen(31, 1, 10), 1);
        due("one sent", () -> x.count(9), 1);
    }

    private static void undoneAreMuteAndLostToo() {
        PathProber x = of(ONE + MUTE + ONE + ONE + row(0, 2) + "to 2;to 3;");
        x.probe(0, 0, 2);
        x.probe(0, 1, 2);
        x.image();
        due("one mute, one lost", () -> x.count(19) * 10 + x.count(20), 11);
        x.undo();
        due("the lost one is undone", () -> x.count(19) * 10 + x.count(20), 10);
        x.undo();
        due("the mute one is undone", () -> x.count(19) * 10 + x.count(20), 0);
        x.restore();
        due("as in the image", () -> x.count(19) * 10 + x.count(20), 11);
    }

    private static void windows() {
        PathProber x = of(FORK);
        due("none yet", () -> x.count(16) + x.count(17) + x.count(18), 0);
        x.probe(0, 0, 1);
        due("one", () -> x.count(16), 1);
        due("one deep", () -> x.count(18), 1);
        x.probe(0, 0, 1);
        due("two", () -> x.count(16), 2);
        due("still one deep", () -> x.count(18), 1);
        due("sweep", () -> x.sweep(0, 1), 6);
        due("its own and its probes'", () -> x.count(16), 9);
        due("two deep", () -> x.count(18), 2);
        due("trace", () -> x.trace(0, 0), 5);
        due("likewise", () -> x.count(16), 15);
        due("still two deep", () -> x.count(18), 2);
        due("all are shut", () -> x.count(17), 0);
        x.ping(0);
        x.twins(0, 1);
        x.loss(3);
        x.clear();
        x.years(1, 40, 0);
        x.probe(0, 0, 11);
        x.sweep(0, 11);
        x.trace(32, 0);
        due("these open none", () -> x.count(16), 15);
        PathProber y = of(ONE + MUTE + ONE + ONE + row(0, 2) + "to 2;to 3;");
        y.probe(0, 0, 2);
        due("shut behind a mute one", () -> y.count(16) * 10 + y.count(17), 10);
        y.probe(0, 1, 2);
        due("and behind a lost one", () -> y.count(16) * 10 + y.count(17), 20);
        PathProber z = of(FORK);
        z.trace(0, 0);
        due("a trace alone is two deep", () -> z.count(18), 2);
    }

    private static void enoughIsLessThan() {
        // Among two: 1 of 2 to the (n - 1). At 50 and 25 hundredths it is just so much, which isn't less.
        int[][] table = {{1, 8, 15, 21, 28}, {2, 7, 13, 19, 25}, {12, 5, 8, 13, 17}, {13, 4, 8, 12, 17},
            {25, 4, 7, 10, 14}, {26, 3, 6, 10, 14}, {49, 3, 5, 7, 10}, {50, 3, 5, 7, 10}};
        for (int[] line : table) {
            PathProber x = of("loss " + line[0] + ";");
            PathProber y = of("");
            y.loss(line[0]);
            for (int k = 1; k <= 4; k++) {
                int which = k;
                due("enough for " + k + " by " + line[0], () -> x.count(which + 3), line[k]);
                due("the same when told", () -> y.count(which + 3), line[k]);
            }
            y.undo();
            due("and undone", () -> y.count(7), 21);
        }
    }

    private static void missing() {
        PathProber x = new PathProber();
        for (int m = 1; m <= 5; m++) {
            int among = m;
            due("of none among " + m, () -> x.missing(0, among), WHOLE);
            due("one too few among " + m, () -> x.missing(among - 1, among), WHOLE);
            due("just so many among " + m, () -> x.missing(among, among) < WHOLE ? 1 : 0, 1);
        }
        due("of 60 among 1", () -> x.missing(60, 1), 0);
        due("of 60 among 2", () -> x.missing(60, 2), 0);
        // A half of what is left stays, cut: the last one goes at the 41st.
        due("of 40 among 2", () -> x.missing(40, 2), 1);
        due("of 41 among 2", () -> x.missing(41, 2), 0);
        due("of 60 among 3", () -> x.missing(60, 3), 80);
        due("of 60 among 4", () -> x.missing(60, 4), 127564);
        due("of 60 among 5", () -> x.missing(60, 5), 7662474);
        due("of 5 among 5", () -> x.missing(5, 5), 961600000000L);
        due("of 7 among 4", () -> x.missing(7, 4), 487304687500L);
    }

    private static void sweeps() {
        PathProber x = of(ONE + ONE + "to 1;");
        due("none seen counts as one", () -> x.sweep(0, 2), 6);
        PathProber y = of(FORK);
        due("one seen", () -> y.sweep(0, 1), 6);
        due("as many again", () -> y.sweep(0, 1), 6);
        due("from port 0", () -> y.seen(0, 0, 1), 0);
        due("to port 5", () -> y.seen(5, 0, 1), 0);
        due("not port 6", () -> y.seen(6, 0, 1), NONE);
        y.probe(31, 0, 3);
        due("two, one of which was seen ahead", () -> y.sweep(0, 3), 11);
        due("at the last hop", () -> y.sweep(0, 10), 6);
        PathProber three = of("router packet 0 1;" + ONE.repeat(4) + "link 0 1;link 0 2;link 0 3;link 1 4;link 2 4;link 3 4;to 4;");
        due("three", () -> three.sweep(0, 2), 16);
        PathProber four = of("router packet 0 1;" + FOUR_BEHIND);
        due("four", () -> four.sweep(2, 2), 21);
        PathProber eight = of("router packet 0 1;router packet 0 1;router packet 0 1;" + ONE.repeat(6)
                + "link 0 1;link 0 2;link 0 3;link 0 4;link 1 5;link 1 6;link 1 7;link 2 5;link 2 6;link 2 7;link 3 5;link 4 5;"
                + "link 5 8;link 6 8;link 7 8;to 8;loss 1;");
        due("more than four count as four", () -> eight.sweep(0, 3), 28);
        due("eight", () -> Integer.bitCount(eight.hop(0, 3, 0)), 8);
        // By loss 1 are 28 enough for four, so none ever comes to 32.
        due("again", () -> eight.sweep(0, 3), 28);
        // Ahead port 0 saw address 1, port 1 saw 2, and the turn is odd: the first probe writes 1 over (then 2 alone
        // is seen), the second 2 (1 and 2 again), so that it goes on till five are enough for two.
        PathProber less = of(PACKETS + "loss 50;");
        less.probe(0, 0, 2);
        less.probe(1, 0, 2);
        less.probe(2, 0, 3);
        due("two are seen", () -> less.hop(0, 2, 0), 0b110);
        due("by loss 50 five for two", () -> less.sweep(0, 2), 5);
    }

    private static void traces() {
        PathProber ten = of(chain(10) + "to 9;");
        due("the goal at ten", () -> ten.trace(0, 0), 10);
        due("it answered", () -> ten.seen(0, 0, 10), 9);
        PathProber eleven = of(chain(11) + "to 10;");
        due("the goal at eleven", () -> eleven.trace(31, 0), 10);
        due("it wasn't come to", () -> eleven.seen(31, 0, 10), 9);
        due("its counter", () -> eleven.router(10, 5), 0);
        PathProber nine = of(chain(9) + "to 8;");
        due("the goal at nine", () -> nine.trace(0, 0), 9);
        PathProber one = of(MUTE + "to 0;");
        due("the goal at one", () -> one.trace(0, 0), 1);
        PathProber lost = of(ONE + ONE + "to 1;");
        due("lost behind the first", () -> lost.trace(0, 0), 10);
        due("nine are", () -> lost.count(20), 9);
        PathProber mute = of(ONE + MUTE + ONE + row(0, 2) + "to 2;");
        due("on past a mute one", () -> mute.trace(0, 0), 3);
        PathProber late = of(ONE + LATE + ONE + row(0, 2) + "to 2;");
        due("a late one leads to the goal", () -> late.trace(0, 0), 2);
        PathProber other = of(chain(3) + "to 2;to 1;");
        due("not at another goal", () -> other.trace(0, 0), 3);
    }

    private static PathProber pair(int pace, int second, int ahead) {
        PathProber x = of("router one 0 " + pace + ";router one 0 " + second + ";link 0 1;to 1;");
        x.probe(0, 0, 1);
        x.probe(0, 0, 2);
        for (int i = 0; i < ahead; i++) {
            x.ping(1);
        }
        return x;
    }

    private static void twinsByTheirSteps() {
        // 2, 2, ..
        due("0 more", () -> pair(1, 1, 0).twins(0, 1), 0);
        // 2, 130, 3, ..: 128, then 129 more.
        due("128 more is too much", () -> pair(1, 1, 128).twins(0, 1), 0);
        // 2, 10, 3, ..: 8, then 249 more.
        due("back is too much", () -> pair(1, 1, 8).twins(0, 1), 0);
        // 120, 150, 180, 180, ..
        due("0 more at the fourth", () -> pair(60, 30, 3).twins(0, 1), 0);
        // 20, 24, 30, 32, 40, 40.
        due("the very last counts", () -> pair(10, 8, 1).twins(0, 1), 0);
        // 20, 27, 30, 36, 40, 45.
        due("only told to be one", () -> pair(10, 9, 1).twins(0, 1), 1);
        // 18, 20, 27, 30, 36, 40.
        due("the first has none ahead", () -> pair(9, 10, 0).twins(0, 1), 1);
        due("1 more each", () -> twoAddressesOfOne(1).twins(2, 3), 1);
        PathProber far = twoAddressesOfOne(60);
        due("60 more each, past 256", () -> far.twins(2, 3), 1);
        due("three pings of each", () -> far.router(2, 5), 480 - 256);
        due("either way", () -> far.twins(3, 2), 1);
    }

    private static PathProber twoAddressesOfOne(int pace) {
        PathProber x = of("router flow 0 1;router one 0 1;router one 0 " + pace + ";link 0 1;link 0 2;link 1 2;to 2;");
        x.probe(0, 0, 3);
        x.probe(1, 0, 2);
        due("two addresses of one", () -> x.count(8), 0b1100);
        return x;
    }

    private static void actsAreAtMostForty() {
        PathProber x = of(ONE + "to 0;");
        for (int i = 1; i <= 40; i++) {
            x.probe(0, 0, 1);
        }
        due("forty", () -> x.count(10), 40);
        x.probe(0, 0, 1);
        due("the 41st puts out the first", () -> x.count(10), 40);
        for (int left = 39; left >= 0; left--) {
            int due = left;
            due("undo to " + left, x::undo, due);
            due("sent", () -> x.count(9), due + 1);
        }
        due("none is left", x::undo, NONE);
        due("the first stands", () -> x.router(0, 5), 1);
        x.probe(0, 0, 1);
        due("kept again", () -> x.count(10), 1);
        PathProber y = of(ONE + "to 0;");
        for (int i = 1; i <= 100; i++) {
            y.loss(i % 50 + 1);
        }
        due("forty of a hundred", () -> y.count(10), 40);
        y.undo();
        due("the last one first", () -> y.count(3), 50);
        y.undo();
        due("then the one ahead", () -> y.count(3), 49);
    }

    private static void eachActIsOne() {
        PathProber x = of(FORK);
        x.probe(0, 0, 1);
        due("a probe", () -> x.count(10), 1);
        x.probe(0, 0, 2);
        x.ping(0);
        due("a ping", () -> x.count(10), 3);
        x.sweep(0, 3);
        due("a sweep", () -> x.count(10), 4);
        x.trace(0, 0);
        due("a trace", () -> x.count(10), 5);
        x.twins(0, 1);
        due("twins", () -> x.count(10), 6);
        x.loss(5);
        due("loss, though it is as it was", () -> x.count(10), 7);
        x.clear();
        x.clear();
        due("clear, though nothing is left", () -> x.count(10), 9);
        x.note(0, 0, 1, 0);
        x.forget();
        x.image();
        x.years(3, 9, 0);
        due("these are none", () -> x.count(10), 9);
        x.restore();
        due("nor this", () -> x.count(10), 9);
    }
}
