/** Promise 4: begin. */
public final class BeginTest {
    public static void main(String[] args) {
        beginsAtTheLowestBits();
        setsTheStatusAndTurnsOff();
        setsTheStatusOutOfEveryMode();
        leavesAllElse();
        leavesWhatEachModeHas();
        leavesAFarTimer();
        endsWaitingAndStandingStill();
        Checks.finish();
    }

    private static void beginsAtTheLowestBits() {
        PageGuards x = new PageGuards(1);
        int[] addresses = {0, 1, 511, 512, 4095, 4096, 4100, -1, Integer.MIN_VALUE + 3};
        int[] pcs = {0, 1, 511, 512, 4095, 0, 4, 4095, 3};
        for (int i = 0; i < addresses.length; i++) {
            x.begin(addresses[i]);
            Checks.due("PC after begin(" + addresses[i] + ")", x.state(Code.PC), pcs[i]);
        }
        Checks.due("state(11)", x.state(11), 0);
    }

    private static void setsTheStatusAndTurnsOff() {
        PageGuards x = Tables.on(1, 0);
        Code.status(x, Code.IRQ | Code.V | Code.C | Code.Z | Code.N);
        Checks.due("entries", x.state(Code.ENTRIES), 1);
        x.begin(20);
        Checks.due("STATUS", x.state(Code.STATUS), Code.SYSTEM | Code.NO_IRQ | Code.NO_FIQ);
        Checks.due("ON", x.state(20), 0);
        Checks.due("entries after", x.state(Code.ENTRIES), 0);
        Checks.due("entry(0, 0)", x.entry(0, 0), -1);
        Checks.due("walks", x.state(Code.WALKS), 1);
    }

    private static void setsTheStatusOutOfEveryMode() {
        for (int mode = 0; mode < 6; mode++) {
            for (int rest : new int[] {0, 0x1F8}) {
                PageGuards x = Code.begun();
                Code.status(x, mode | rest);
                x.begin(20);
                Checks.due("STATUS out of " + (mode | rest), x.state(Code.STATUS), 25);
                Checks.due("PC out of " + (mode | rest), x.state(Code.PC), 20);
            }
        }
    }

    private static void leavesAllElse() {
        PageGuards x = Code.begun();
        for (int k = 1; k < 12; k++) {
            Code.control(x, k, 2);
        }
        for (int r = 0; r < 8; r++) {
            x.set(r, 100 + r);
        }
        x.set(4, Code.ABORT);
        Code.exec(x, Code.writeKept(4));
        x.line(1, true);
        x.line(3, true);
        x.poke(300, 33);
        x.begin(20);
        for (int k = 1; k < 11; k++) {
            Checks.due("control " + k, x.state(20 + k), 2);
        }
        Checks.due("TIMER", x.state(31), 1);
        for (int r = 0; r < 8; r++) {
            Checks.due("R" + r, x.state(r), r == 4 ? Code.ABORT : 100 + r);
        }
        Checks.due("KEPT", x.state(Code.KEPT), Code.ABORT);
        Checks.due("lines", x.state(12), 2 + 8);
        Checks.due("word(300)", x.word(300), 33);
    }

    /** USER comes last, as it is left by an exception or by begin alone. */
    private static void leavesWhatEachModeHas() {
        PageGuards x = Code.begun();
        for (int mode : new int[] {1, 2, 3, 4, 5, 0}) {
            Code.status(x, mode);
            x.set(6, 60 + mode);
            x.set(7, 70 + mode);
            x.set(4, 300 + mode);
            if (mode != Code.USER) {
                Code.exec(x, Code.writeKept(4));
            }
        }
        x.begin(40);
        for (int mode : new int[] {1, 2, 3, 4, 5, 0}) {
            Code.status(x, mode);
            Checks.due("R6 of mode " + mode, x.state(6), 60 + mode);
            Checks.due("R7 of mode " + mode, x.state(7), 70 + mode);
            Checks.due("KEPT of mode " + mode, x.state(Code.KEPT), mode == Code.USER ? 0 : 300 + mode);
        }
    }

    private static void leavesAFarTimer() {
        PageGuards x = Code.begun();
        Code.control(x, Code.TIMER, 65535);
        x.begin(20);
        Checks.due("TIMER", x.state(31), 65535);
        x.begin(20);
        x.run(1);
        Checks.due("TIMER a step later", x.state(31), 65534);
    }

    private static void endsWaitingAndStandingStill() {
        PageGuards x = Code.begun();
        Code.exec(x, Code.waits());
        Checks.due("waits", x.state(11), 1);
        x.begin(30);
        Checks.due("waits after begin", x.state(11), 0);
        Code.exec(x, Code.let(1, 5), Code.standStill());
        Checks.due("R1", x.state(1), 5);
        Checks.due("still", x.state(11), 2);
        x.begin(30);
        Checks.due("still after begin", x.state(11), 0);
        Checks.due("run(1)", x.run(1), 1);
    }
}
