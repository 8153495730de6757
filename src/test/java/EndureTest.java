/**
 * No call throws or leaves its range, whatever the arguments and the words in memory are, and the
 * same calls give the same answers. The numbers come from a fixed row, so that each run is alike.
 */
public final class EndureTest {
    private static final int OBJECTS = 3000;
    private static final int CALLS = 100;

    private long seed = 20261115L;

    public static void main(String[] args) {
        new EndureTest().everyObject();
        Checks.finish();
    }

    private void everyObject() {
        for (int i = 0; i < OBJECTS; i++) {
            int buffered = below(3);
            PageGuards x = new PageGuards(buffered);
            PageGuards y = new PageGuards(buffered);
            for (int k = 0; k < CALLS; k++) {
                call(x, y);
            }
            dueRanges(x);
        }
    }

    private int next() {
        seed = seed * 6364136223846793005L + 1442695040888963407L;
        return (int) (seed >>> 32);
    }

    private int below(int bound) {
        return Integer.remainderUnsigned(next(), bound);
    }

    /** A number that is often in the range, often at its edge, and now and then anything. */
    private int about(int bound) {
        int kind = below(12);
        if (kind == 0) {
            return next();
        }
        return kind == 1 ? bound - 1 + below(3) : kind == 2 ? -below(3) : below(bound);
    }

    private void call(PageGuards x, PageGuards y) {
        int p = about(512);
        int q = next();
        switch (below(10)) {
            case 0:
            case 1:
                Checks.due("poke", x.poke(p, q), y.poke(p, q));
                break;
            case 2:
                long low = (long) next() << 32 | next() & 0xFFFFFFFFL;
                long high = (long) next() << 32 | next() & 0xFFFFFFFFL;
                Checks.due("fill", x.fill(p, low, high), y.fill(p, low, high));
                break;
            case 3:
                x.begin(p);
                y.begin(p);
                break;
            case 4:
                int r = about(8);
                Checks.due("set", x.set(r, p), y.set(r, p));
                break;
            case 5:
                int line = about(4);
                Checks.due("line", x.line(line, q < 0), y.line(line, q < 0));
                break;
            case 6:
                enterControl(x, y);
                break;
            case 7:
                Checks.due("word", x.word(p), y.word(p));
                break;
            default:
                int n = about(301);
                Checks.due("run", x.run(n), y.run(n));
                break;
        }
        int what = about(32);
        Checks.due("state", x.state(what), y.state(what));
        int k = about(6);
        int field = about(7);
        Checks.due("entry", x.entry(k, field), y.entry(k, field));
    }

    /** Has the program write a control, so that the unit is often ON with some table. */
    private void enterControl(PageGuards x, PageGuards y) {
        int place = x.state(Code.PC) & 511;
        int code = Code.writeControl(below(13), below(6));
        Checks.due("poke", x.poke(place, code), y.poke(place, code));
        Checks.due("run", x.run(1), y.run(1));
    }

    private static void dueRanges(PageGuards x) {
        int[] most = {1, 511, 511, 3, 255, 15, 7, 4095, 7, 4095, 4095, 65535};
        for (int k = 0; k < 12; k++) {
            dueWithin("control " + k, x.state(20 + k), 0, most[k]);
        }
        dueWithin("PC", x.state(Code.PC), 0, 4095);
        dueWithin("STATUS", x.state(Code.STATUS), 0, 511);
        dueWithin("mode", x.state(Code.STATUS) & 7, 0, 5);
        dueWithin("KEPT", x.state(Code.KEPT), 0, 511);
        dueWithin("lines", x.state(12), 0, 15);
        dueWithin("entries", x.state(Code.ENTRIES), 0, 6);
        for (int k = 0; k < x.state(Code.ENTRIES); k++) {
            int words = x.entry(k, 1);
            Checks.due("words " + words, words == 16 || words == 64 || words == 256, true);
            Checks.due("first address", x.entry(k, 0) % words, 0);
            Checks.due("first place", x.entry(k, 2) % words, 0);
            dueWithin("first place", x.entry(k, 2), 0, 512 - words);
            dueWithin("space", x.entry(k, 3), -1, 15);
        }
    }

    private static void dueWithin(String what, int got, int least, int most) {
        Checks.due(what + " is " + got + ", within its range", got >= least && got <= most, true);
    }
}
