/** Promise 9: state. */
public final class StateTest {
    public static void main(String[] args) {
        tellsTheControls();
        tellsTheKeptStatus();
        tellsWaitingAndStandingStill();
        tellsNothingElse();
        Checks.finish();
    }

    private static void tellsTheControls() {
        PageGuards x = Code.begun();
        int[] most = {1, 511, 511, 3, 255, 15, 7, 4095, 7, 4095, 4095, 65535};
        for (int k = 11; k >= 1; k--) {
            Code.control(x, k, -1);
            Checks.due("control " + k, x.state(20 + k), most[k]);
        }
        for (int k = 1; k < 11; k++) {
            Checks.due("control " + k + " at last", x.state(20 + k), most[k]);
        }
        for (int k = 1; k < 12; k++) {
            Code.control(x, k, (most[k] + 1) | 1);
            Checks.due("control " + k + " of its lowest bits", x.state(20 + k), 1);
            Code.control(x, k, 0);
        }
        Code.control(x, Code.ON, 2);
        Checks.due("ON of 2", x.state(20), 0);
        Code.control(x, Code.ON, -1);
        Checks.due("ON of -1", x.state(20), 1);
    }

    private static void tellsTheKeptStatus() {
        PageGuards x = Code.begun();
        x.set(4, Code.FIQ | Code.Z);
        Code.exec(x, Code.writeKept(4));
        Checks.due("KEPT of SYSTEM", x.state(Code.KEPT), Code.FIQ | Code.Z);
        Code.status(x, Code.ABORT);
        Checks.due("KEPT of ABORT", x.state(Code.KEPT), 0);
        Code.status(x, Code.USER);
        Checks.due("KEPT in USER", x.state(Code.KEPT), 0);
        Code.exec(x, Code.call());
        Code.status(x, Code.SYSTEM);
        Checks.due("KEPT of SYSTEM after a call", x.state(Code.KEPT), Code.USER);
    }

    private static void tellsWaitingAndStandingStill() {
        PageGuards x = Code.begun();
        Checks.due("neither", x.state(11), 0);
        Code.exec(x, Code.waits());
        Checks.due("waits", x.state(11), 1);
        x.line(1, true);
        Checks.due("waits until a step", x.state(11), 1);
        Code.exec(x, Code.standStill());
        Checks.due("still", x.state(11), 2);
    }

    private static void tellsNothingElse() {
        PageGuards x = Code.begun();
        int[] none = {-1, -8, 15, 16, 17, 18, 19, 32, 33, 40, Integer.MIN_VALUE, Integer.MAX_VALUE};
        for (int what : none) {
            Checks.due("state(" + what + ")", x.state(what), -1);
        }
    }
}
