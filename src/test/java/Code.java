/** The words of operations, and small ways to have them done. */
final class Code {
    static final int USER = 0;
    static final int SYSTEM = 1;
    static final int ABORT = 2;
    static final int UNKNOWN = 3;
    static final int IRQ = 4;
    static final int FIQ = 5;
    static final int NO_IRQ = 8;
    static final int NO_FIQ = 16;
    static final int V = 32;
    static final int C = 64;
    static final int Z = 128;
    static final int N = 256;

    static final int PC = 8;
    static final int STATUS = 9;
    static final int KEPT = 10;
    static final int ENTRIES = 13;
    static final int WALKS = 14;

    static final int ON = 0;
    static final int TABLE = 1;
    static final int HIGH_TABLE = 2;
    static final int SPLIT = 3;
    static final int DOMAINS = 4;
    static final int SPACE = 5;
    static final int VECTORS = 10;
    static final int TIMER = 11;

    private Code() {
    }

    static int op(int operation, int d, int a, int b, int n) {
        return operation << 27 | d << 24 | a << 21 | b << 18 | n & 0xFFFF;
    }

    static int when(int condition, int code) {
        return code | condition << 16;
    }

    static int let(int d, int n) {
        return op(0, d, 0, 0, n);
    }

    static int compare(int a, int b) {
        return op(10, 0, a, b, 0);
    }

    static int load(int d, int a, int n) {
        return op(11, d, a, 0, n);
    }

    static int store(int d, int a, int n) {
        return op(12, d, a, 0, n);
    }

    static int loadMany(int a, int chosen) {
        return op(13, 0, a, 0, chosen);
    }

    static int storeMany(int a, int chosen) {
        return op(14, 0, a, 0, chosen);
    }

    static int jump(int n) {
        return op(15, 0, 0, 0, n);
    }

    static int jumpTo(int a) {
        return op(17, 0, 0, 0, 0) | a << 21;
    }

    static int call() {
        return op(18, 0, 0, 0, 0);
    }

    static int readStatus(int d) {
        return op(19, d, 0, 0, 0);
    }

    static int readKept(int d) {
        return op(19, d, 0, 0, 1);
    }

    static int writeStatus(int a) {
        return op(20, 0, a, 0, 0);
    }

    static int writeKept(int a) {
        return op(20, 0, a, 0, 1);
    }

    static int comeBack() {
        return op(21, 0, 0, 0, 0);
    }

    static int readControl(int d, int n) {
        return op(22, d, 0, 0, n);
    }

    static int writeControl(int n, int a) {
        return op(23, 0, a, 0, n);
    }

    static int forget(int n, int a) {
        return op(24, 0, a, 0, n);
    }

    static int waits() {
        return op(25, 0, 0, 0, 0);
    }

    static int lowerLine() {
        return op(26, 0, 0, 0, 0);
    }

    static int standStill() {
        return op(27, 0, 0, 0, 0);
    }

    /** An object that has begun at address 10, with nothing in memory. */
    static PageGuards begun() {
        PageGuards x = new PageGuards(1);
        x.begin(10);
        return x;
    }

    /** Lays each word at the place that PC is, and makes a step. */
    static void exec(PageGuards x, int... codes) {
        for (int code : codes) {
            x.poke(x.state(PC), code);
            Checks.due("run(1)", x.run(1), 1);
        }
    }

    /** Writes a control by way of R5. */
    static void control(PageGuards x, int n, int v) {
        x.set(5, v);
        exec(x, writeControl(n, 5));
    }

    /** Writes the STATUS by way of R5. */
    static void status(PageGuards x, int v) {
        x.set(5, v);
        exec(x, writeStatus(5));
    }
}
