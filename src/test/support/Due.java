import java.nio.charset.StandardCharsets;
import java.util.NoSuchElementException;
import java.util.function.LongSupplier;

/** What the tests share: a call's answer against the one that is due. Tests extend it, for the unnamed package can't be imported. */
class Due {
    static final long ILLEGAL = Long.MIN_VALUE;
    static final long NO_SUCH = Long.MIN_VALUE + 1;
    static final long OTHER = Long.MIN_VALUE + 2;
    static final long WHOLE = 1000000000000L;
    static final int NONE = -1;
    /** A router of the plainest kind; fifteen bytes, so that places in texts are easily told. */
    static final String ONE = "router one 0 1;";
    private static int wrong = 0;
    private static int checks = 0;

    static long answer(LongSupplier call) {
        try {
            return call.getAsLong();
        } catch (RuntimeException e) {
            if (e.getClass() == NoSuchElementException.class) {
                return NO_SUCH;
            }
            return e.getClass() == IllegalArgumentException.class ? ILLEGAL : OTHER;
        }
    }

    static void due(String what, LongSupplier call, long want) {
        check(what, answer(call), want);
    }

    static void check(String what, long got, long want) {
        checks++;
        if (got != want) {
            wrong++;
            System.out.println(what + " answered " + got + ", due is " + want);
        }
    }

    static void lay(PathProber x, String text) {
        byte[] bytes = text.getBytes(StandardCharsets.ISO_8859_1);
        for (int at = 0; at < bytes.length; at += 20) {
            int[] n = new int[5];
            for (int i = 0; i < 20; i++) {
                n[i / 4] = n[i / 4] << 8 | (at + i < bytes.length ? bytes[at + i] & 255 : 32);
            }
            x.feed(n[0], n[1], n[2], n[3], n[4]);
        }
    }

    static PathProber of(String text) {
        PathProber x = new PathProber();
        lay(x, text);
        due("net of " + text, () -> x.net(text.length()), 0);
        return x;
    }

    static void text(String text, int code, int place) {
        PathProber x = new PathProber();
        lay(x, text);
        due("text " + text, () -> x.net(text.length()), code);
        due("place in " + text, x::fault, place);
    }

    /** Links from each of some routers to the next one. */
    static String row(int first, int last) {
        StringBuilder links = new StringBuilder();
        for (int i = first; i < last; i++) {
            links.append("link ").append(i).append(' ').append(i + 1).append(';');
        }
        return links.toString();
    }

    /** Routers in a row, each with a link to the next one. */
    static String chain(int routers) {
        return ONE.repeat(routers) + row(0, routers - 1);
    }

    static void end() {
        System.out.println(checks + " checks, " + wrong + " wrong");
        if (wrong != 0) {
            System.exit(1);
        }
    }
}
