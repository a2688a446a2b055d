/** 'Terms', part 1: each bound of a text and each fault, one sentence of the document after the other. */
public final class TextEdgesTest extends Due {
    private static final int LONG = ONE.length();

    public static void main(String[] args) {
        routersAreAtMostTwelve();
        saltIsUpTo15();
        paceIs1To60();
        muteOrLateNotBoth();
        linksAreAtMostTwenty();
        linksFromOneAreAtMostFour();
        linksGoToAGreaterNumber();
        neverTwoBetweenTheSame();
        goalsAreAtMostThree();
        lossIs1To50();
        addressesGoUpToTheLinks();
        textHasAtMost700Bytes();
        wordsAreTheLongestRow();
        numbersHaveOneOrTwoDigits();
        blanksAre32And10();
        everyOtherByteIsNoToken();
        endsTooSoon();
        tokensThatCantStandThere();
        routersAreToldAhead();
        firstAlongTheText();
        leastOfOneToken();
        end();
    }

    private static void routersAreAtMostTwelve() {
        PathProber x = of(ONE.repeat(12) + "link 0 11;to 11;");
        due("twelve", () -> x.count(0), 12);
        due("the twelfth", () -> x.router(11, 2), 1);
        due("no thirteenth", () -> x.router(12, 2), NO_SUCH);
        text(ONE.repeat(13), 2, 12 * LONG);
        text(ONE.repeat(12) + " router", 2, 12 * LONG + 1);
        text(ONE.repeat(12) + "router ; x", 2, 12 * LONG);
        // Clauses of other kinds don't count as routers.
        text(ONE.repeat(11) + "to 0;loss 1;link 0 1;" + ONE, 0, NONE);
    }

    private static void saltIsUpTo15() {
        due("salt 0", () -> of("router flow 0 1;").router(0, 1), 0);
        due("salt 15", () -> of("router flow 15 1;").router(0, 1), 15);
        text("router flow 16 1;", 2, 12);
        text("router flow 99 1;", 2, 12);
    }

    private static void paceIs1To60() {
        text("router flow 0 0;", 2, 14);
        text("router flow 0 00;", 2, 14);
        due("pace 1", () -> of("router flow 0 1;").router(0, 2), 1);
        due("pace 60", () -> of("router flow 0 60;").router(0, 2), 60);
        text("router flow 0 61;", 2, 14);
        text("router flow 0 99;", 2, 14);
    }

    private static void muteOrLateNotBoth() {
        due("neither", () -> of(ONE).router(0, 3), 0);
        due("mute", () -> of("router one 0 1 mute;").router(0, 3), 1);
        due("late", () -> of("router one 0 1 late;").router(0, 3), 2);
        text("router one 0 1 mute late;", 1, 20);
        text("router one 0 1 late mute;", 1, 20);
        text("router one 0 1 mute mute;", 1, 20);
        text("router one 0 1 late late;", 1, 20);
    }

    private static String twentyLinks() {
        StringBuilder text = new StringBuilder(ONE.repeat(12));
        for (int i = 0; i < 20; i++) {
            text.append("link ").append(i / 4).append(' ').append(i / 4 + 1 + i % 4).append(';');
        }
        return text.toString();
    }

    private static void linksAreAtMostTwenty() {
        String full = twentyLinks();
        PathProber x = of(full);
        due("twenty", () -> x.count(1), 20);
        due("the twentieth", () -> x.link(19, 1), 8);
        due("no more", () -> x.link(20, 1), NO_SUCH);
        due("the highest address", () -> x.same(20, 20), 1);
        text(full + "link 5 6;", 2, full.length());
        text(full + "link", 2, full.length());
        // The first word is ahead of the router that has four already.
        text(full + "link 0 9;", 2, full.length());
    }

    private static void linksFromOneAreAtMostFour() {
        String four = ONE.repeat(7) + "link 1 2;link 1 3;link 1 4;link 1 5;";
        due("four", () -> of(four).router(1, 6), 0b1111);
        text(four + "link 1 6;", 2, four.length() + 5);
        text(four + "link 1", 2, four.length() + 5);
        // Those that come to it don't count, nor those of another one.
        text(four + "link 0 1;link 2 6;", 0, NONE);
    }

    private static void linksGoToAGreaterNumber() {
        text(ONE + ONE + "link 0 1;", 0, NONE);
        text(ONE + ONE + "link 0 0;", 5, 2 * LONG + 7);
        text(ONE + ONE + "link 1 1;", 5, 2 * LONG + 7);
        text(ONE + ONE + "link 1 0;", 5, 2 * LONG + 7);
        text(ONE.repeat(12) + "link 11 10;", 5, 12 * LONG + 8);
    }

    private static void neverTwoBetweenTheSame() {
        String one = ONE.repeat(3) + "link 0 1;";
        text(one + "link 0 2;link 1 2;", 0, NONE);
        text(one + "link 0 1;", 5, 3 * LONG + 9 + 7);
        text(one + "link 0 2;link 00 01;", 5, 3 * LONG + 18 + 8);
    }

    private static void goalsAreAtMostThree() {
        String three = ONE.repeat(4) + "to 3;to 0;to 2;";
        PathProber x = of(three);
        due("three", () -> x.count(2), 3);
        due("the first", () -> x.router(3, 7), 0);
        due("the third", () -> x.router(2, 7), 2);
        due("no goal's", () -> x.router(1, 7), NONE);
        text(three + "to 1;", 2, three.length());
        text(three + "to", 2, three.length());
        text(three + "to 3;", 2, three.length());
        text(ONE + "to 0;to 0;", 4, LONG + 8);
        text(ONE + ONE + "to 0;to 1;to 00;", 4, 2 * LONG + 13);
    }

    private static void lossIs1To50() {
        text("loss 0;", 2, 5);
        due("loss 1", () -> of("loss 1;").count(3), 1);
        due("loss 50", () -> of("loss 50;").count(3), 50);
        text("loss 51;", 2, 5);
        text("loss 100;", 2, 5);
        due("5 without", () -> of(ONE).count(3), 5);
        text("loss 7;loss 7;", 4, 7);
        text("loss 7;loss", 4, 7);
        text("loss 7;loss 0;", 4, 7);
        PathProber x = of("loss 9;");
        due("told anew", () -> x.net(0), 0);
        due("5 without, behind another text", () -> x.count(3), 5);
        lay(x, "loss 8;");
        due("a new text's first loss is no second one", () -> x.net(7), 0);
    }

    private static void addressesGoUpToTheLinks() {
        due("no router, no address", () -> new PathProber().same(0, 0), NO_SUCH);
        PathProber x = of(ONE);
        due("0 is router 0's", () -> x.same(0, 0), 1);
        due("without links no 1", () -> x.same(1, 1), NO_SUCH);
        PathProber y = of(ONE.repeat(3) + "link 0 2;link 1 2;");
        due("1 and 2 are router 2's", () -> y.same(1, 2), 1);
        due("0 isn't", () -> y.same(0, 2), 0);
        due("no 3", () -> y.same(3, 1), NO_SUCH);
        due("no 3 either way", () -> y.same(1, 3), NO_SUCH);
        due("none below 0", () -> y.same(0, -1), NO_SUCH);
    }

    private static void textHasAtMost700Bytes() {
        String last = "loss 9;";
        String full = " ".repeat(700 - last.length()) + last;
        due("700 bytes, the last ones too", () -> of(full).count(3), 9);
        PathProber x = new PathProber();
        lay(x, full);
        due("the last byte isn't read", () -> x.net(699), 1);
        due("it ends too soon", x::fault, 699);
        text("\n".repeat(700), 0, NONE);
        text(";".repeat(700), 1, 0);
        text("a".repeat(700), 1, 0);
        text("loss " + "1".repeat(695), 2, 5);
    }

    private static void wordsAreTheLongestRow() {
        text("routerone 0 1;", 1, 0);
        text("router oneflow 0 1;", 1, 7);
        text("router on 0 1;", 1, 7);
        text("route one 0 1;", 1, 0);
        text("router one 0 1 mutes;", 1, 15);
        text("router one 0 1 mut;", 1, 15);
        text("router one 0 1 latelate;", 1, 15);
        text("losss 5;", 1, 0);
        text("los s 5;", 1, 0);
        text("t 0;", 1, 0);
        text("tto 0;", 1, 0);
        text("lin 0 1;", 1, 0);
        // A number ends a word, so no blank is needed there.
        text("router one0 1late;router one0 1;link0 1;to0;loss5;", 0, NONE);
    }

    private static void numbersHaveOneOrTwoDigits() {
        due("00", () -> of("router one 00 01;").router(0, 2), 1);
        text("router one 000 1;", 2, 11);
        text("router one 0 001;", 2, 13);
        text(ONE + "to 000;", 2, LONG + 3);
        text(ONE + "link 000 1;", 2, LONG + 5);
        text(ONE + ONE + "link 0 001;", 2, 2 * LONG + 7);
        text("loss 005;", 2, 5);
        text("loss 12345678901234567890;", 2, 5);
        // The longest row is one token: 01 is one number, with a blank it is two.
        text(ONE + ONE + "link 01;", 1, 2 * LONG + 7);
        text(ONE + ONE + "link 0 1;", 0, NONE);
        text("router one 1 5;", 0, NONE);
        text("router one 15;", 1, 13);
    }

    private static void blanksAre32And10() {
        text(" ", 0, NONE);
        text("\n", 0, NONE);
        text("  \n\n  router \n one\n0  1 ; \n", 0, NONE);
        text(" \n x", 1, 3);
        text("loss\n51;", 2, 5);
        text("lo ss 5;", 1, 0);
        due("a blank within a number makes two", () -> of("router one 1 5;").router(0, 1), 1);
    }

    private static void everyOtherByteIsNoToken() {
        for (int b = 0; b < 256; b++) {
            char c = (char) b;
            boolean blank = b == 32 || b == 10;
            boolean letter = b >= 'a' && b <= 'z';
            text(c + ONE, blank ? 0 : 1, blank ? NONE : 0);
            // A digit makes the pace longer; a second sign stands too far behind.
            boolean stands = blank || b >= '0' && b <= '9';
            text("router one 0 1" + c + ";", stands ? 0 : 1, stands ? NONE : c == ';' ? 15 : 14);
            text("router" + c + "one 0 1;", blank ? 0 : 1, blank ? NONE : letter ? 0 : 6);
            text(ONE + c, blank ? 0 : 1, blank ? NONE : LONG);
        }
    }

    private static void endsTooSoon() {
        text("router", 1, 6);
        text("router \n", 1, 8);
        text("router one", 1, 10);
        text("router one 15", 1, 13);
        text("router one 15 60", 1, 16);
        text("router one 15 60  ", 1, 18);
        text("router one 15 60 late", 1, 21);
        text("router one 15 60 late ", 1, 22);
        text("router one 15 60 late;", 0, NONE);
        text(ONE + ONE + "link", 1, 34);
        text(ONE + ONE + "link 0", 1, 36);
        text(ONE + ONE + "link 0 1", 1, 38);
        text(ONE + ONE + "link 0 1;", 0, NONE);
        text(ONE + "to", 1, 17);
        text(ONE + "to 0", 1, 19);
        text(ONE + "to 0 ", 1, 20);
        text(ONE + "to 0;", 0, NONE);
        text("loss", 1, 4);
        text("loss 5", 1, 6);
        text("loss 5\n\n", 1, 8);
        text("loss 5;", 0, NONE);
        // A number that is cut is told by what is left of it.
        text("router one 1", 1, 12);
        text("rout", 1, 0);
    }

    private static void tokensThatCantStandThere() {
        String[] starts = {"5", ";", "one", "mute", "late", "flow", "packet", "goal", "x", "100"};
        for (String start : starts) {
            text(start, 1, 0);
            text(ONE + " " + start, 1, LONG + 1);
        }
        text("router;", 1, 6);
        text("router 1 0 1;", 1, 7);
        text("router mute 0 1;", 1, 7);
        text("router router one 0 1;", 1, 7);
        text("router one;", 1, 10);
        text("router one one 1;", 1, 11);
        text("router one 0;", 1, 12);
        text("router one 0 mute;", 1, 13);
        text("router one 0 1 1;", 1, 15);
        text("router one 0 1 one;", 1, 15);
        text("router one 0 1 link 0 1;", 1, 15);
        text("router one 0 1;;", 1, 15);
        text(ONE + ONE + "link;", 1, 34);
        text(ONE + ONE + "link to 1;", 1, 35);
        text(ONE + ONE + "link 0;", 1, 36);
        text(ONE + ONE + "link 0 to 1;", 1, 37);
        text(ONE + ONE + "link 0 1 1;", 1, 39);
        text(ONE + ONE + "link 0 1 late;", 1, 39);
        text(ONE + "to;", 1, 17);
        text(ONE + "to to 0;", 1, 18);
        text(ONE + "to 0 0;", 1, 20);
        text(ONE + "to 0 late;", 1, 20);
        text("loss;", 1, 4);
        text("loss loss;", 1, 5);
        text("loss 5 5;", 1, 7);
        text("loss 5 late;", 1, 7);
    }

    private static void routersAreToldAhead() {
        text("link 0 1;", 3, 5);
        text("to 0;", 3, 3);
        text("to 0;" + ONE, 3, 3);
        text(ONE + "link 0 1;" + ONE, 3, LONG + 7);
        text(ONE + "link 1 0;", 3, LONG + 5);
        text(ONE + "to 1;", 3, LONG + 3);
        text(ONE.repeat(11) + "to 11;", 3, 11 * LONG + 3);
        text(ONE.repeat(11) + "link 0 11;", 3, 11 * LONG + 7);
        text(ONE.repeat(12) + "to 11;link 10 11;", 0, NONE);
        PathProber x = of(ONE + ONE);
        lay(x, "to 1;");
        due("the former text's aren't told ahead", () -> x.net(5), 3);
    }

    private static void firstAlongTheText() {
        text("router one 16 0 x", 2, 11);
        text("router one 0 0 5;", 2, 13);
        text("loss 0;loss 0;", 2, 5);
        text("x" + ONE.repeat(13), 1, 0);
        text(ONE + "to 0;to 0;x", 4, LONG + 8);
        text(ONE + "link 0 0;link 0 5;", 5, LONG + 7);
        text(ONE + "link 0 5;link 0 0;", 3, LONG + 7);
        text("loss 1;to 0;loss 1;", 3, 10);
    }

    private static void leastOfOneToken() {
        // 12 is beyond 0 to 11 (2) and isn't told (3).
        text(ONE + "to 12;", 2, LONG + 3);
        text(ONE + "to 99;", 2, LONG + 3);
        text(ONE + "link 12 0;", 2, LONG + 5);
        text(ONE + "link 0 12;", 2, LONG + 7);
        text(ONE.repeat(12) + "link 0 12;", 2, 12 * LONG + 7);
        // What can't stand there is a 1, even if it is too much or a second one.
        text(ONE.repeat(11) + "router one 0 1 router", 1, 12 * LONG);
        text("loss 5 loss 6;", 1, 7);
        text(ONE.repeat(4) + "to 0;to 1;to 2 to 3;", 1, 4 * LONG + 15);
        text("loss 5 100;", 1, 7);
        text("router 100", 1, 7);
    }
}
