/** Promises 5 and 6: set and line. */
public final class SetAndLineTest {
    public static void main(String[] args) {
        setWritesOneRegister();
        setIsOfTheModeThereIs();
        setNeedsARegister();
        lineGoesUpAndDown();
        lineNeedsALine();
        Checks.finish();
    }

    private static void setWritesOneRegister() {
        PageGuards x = new PageGuards(1);
        for (int r = 0; r < 8; r++) {
            Checks.due("set(" + r + ")", x.set(r, -1000 - r), true);
        }
        for (int r = 0; r < 8; r++) {
            Checks.due("R" + r, x.state(r), -1000 - r);
        }
        x.set(3, Integer.MAX_VALUE);
        Checks.due("R3", x.state(3), Integer.MAX_VALUE);
        Checks.due("R2", x.state(2), -1002);
        Checks.due("R4", x.state(4), -1004);
    }

    /** USER comes last of the modes, as it is left by an exception alone. */
    private static void setIsOfTheModeThereIs() {
        PageGuards x = Code.begun();
        int[] modes = {Code.SYSTEM, Code.ABORT, Code.UNKNOWN, Code.IRQ, Code.FIQ, Code.USER};
        for (int mode : modes) {
            Code.status(x, mode);
            x.set(1, 10 + mode);
            x.set(6, 60 + mode);
            x.set(7, 70 + mode);
        }
        Checks.due("R1 is common", x.state(1), 10);
        Checks.due("R6 of USER", x.state(6), 60);
        Checks.due("R7 of USER", x.state(7), 70);
        Code.exec(x, Code.call());
        Checks.due("R6 of SYSTEM", x.state(6), 61);
        for (int mode : new int[] {Code.FIQ, Code.IRQ, Code.UNKNOWN, Code.ABORT}) {
            Code.status(x, mode);
            Checks.due("R1 in mode " + mode, x.state(1), 10);
            Checks.due("R6 of mode " + mode, x.state(6), 60 + mode);
            Checks.due("R7 of mode " + mode, x.state(7), 70 + mode);
        }
    }

    private static void setNeedsARegister() {
        PageGuards x = new PageGuards(1);
        int[] none = {-1, 8, 9, 14, 16, Integer.MIN_VALUE, Integer.MAX_VALUE};
        for (int register : none) {
            Checks.due("set(" + register + ")", x.set(register, 5), false);
        }
        for (int r = 0; r < 8; r++) {
            Checks.due("R" + r, x.state(r), 0);
        }
        Checks.due("PC", x.state(Code.PC), 0);
    }

    private static void lineGoesUpAndDown() {
        PageGuards x = new PageGuards(1);
        int up = 0;
        for (int line = 0; line < 4; line++) {
            Checks.due("line(" + line + ", true)", x.line(line, true), true);
            up |= 1 << line;
            Checks.due("lines", x.state(12), up);
        }
        Checks.due("line(2, true) again", x.line(2, true), true);
        Checks.due("lines", x.state(12), 15);
        Checks.due("line(1, false)", x.line(1, false), true);
        Checks.due("lines", x.state(12), 13);
        Checks.due("line(1, false) again", x.line(1, false), true);
        Checks.due("lines", x.state(12), 13);
        Checks.due("line(3, false)", x.line(3, false), true);
        Checks.due("lines", x.state(12), 5);
    }

    private static void lineNeedsALine() {
        PageGuards x = new PageGuards(1);
        x.line(0, true);
        int[] none = {-1, 4, 5, 32, -32, 33, Integer.MIN_VALUE, Integer.MAX_VALUE};
        for (int line : none) {
            Checks.due("line(" + line + ", true)", x.line(line, true), false);
            Checks.due("line(" + line + ", false)", x.line(line, false), false);
        }
        Checks.due("lines", x.state(12), 1);
    }
}
