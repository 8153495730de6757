/** Promise 1: what a new object is like. */
public final class NewObjectTest {
    public static void main(String[] args) {
        memoryIsZero();
        allElseIsZero();
        itStandsStill();
        eachModeStartsEmpty();
        onlyZeroLeavesTheBufferUnused();
        Checks.finish();
    }

    private static void memoryIsZero() {
        PageGuards x = new PageGuards(1);
        for (int place = 0; place < 512; place++) {
            Checks.due("word(" + place + ")", x.word(place), 0);
        }
    }

    private static void allElseIsZero() {
        PageGuards x = new PageGuards(1);
        for (int r = 0; r < 8; r++) {
            Checks.due("R" + r, x.state(r), 0);
        }
        for (int k = 0; k < 12; k++) {
            Checks.due("control " + k, x.state(20 + k), 0);
        }
        Checks.due("PC", x.state(Code.PC), 0);
        Checks.due("STATUS", x.state(Code.STATUS), Code.SYSTEM | Code.NO_IRQ | Code.NO_FIQ);
        Checks.due("KEPT", x.state(Code.KEPT), 0);
        Checks.due("lines", x.state(12), 0);
        Checks.due("entries", x.state(Code.ENTRIES), 0);
        Checks.due("walks", x.state(Code.WALKS), 0);
    }

    private static void itStandsStill() {
        PageGuards x = new PageGuards(0);
        Checks.due("state(11)", x.state(11), 2);
        Checks.due("run(300)", x.run(300), 0);
        Checks.due("PC", x.state(Code.PC), 0);
    }

    private static void eachModeStartsEmpty() {
        for (int mode : new int[] {Code.USER, Code.ABORT, Code.UNKNOWN, Code.IRQ, Code.FIQ}) {
            PageGuards x = Code.begun();
            x.set(6, 66);
            x.set(7, 77);
            Code.status(x, mode);
            Checks.due("R6 of mode " + mode, x.state(6), 0);
            Checks.due("R7 of mode " + mode, x.state(7), 0);
            Checks.due("KEPT of mode " + mode, x.state(Code.KEPT), 0);
        }
    }

    private static void onlyZeroLeavesTheBufferUnused() {
        int[] kinds = {0, 1, 2, -1, 256, Integer.MIN_VALUE, Integer.MAX_VALUE};
        for (int buffered : kinds) {
            PageGuards x = Tables.on(buffered, 0);
            Code.exec(x, Code.let(0, 1));
            Checks.due("entries with " + buffered, x.state(Code.ENTRIES), buffered == 0 ? 0 : 1);
        }
    }
}
