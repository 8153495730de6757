/** Promise 7: how many steps a run makes, and what a step does ahead of its operation. */
public final class RunTest {
    public static void main(String[] args) {
        runNeedsANumber();
        runStopsWhenItStandsStill();
        timerRaisesLineZero();
        timerThatIsZeroDoesNothing();
        timerCountsWhileItWaits();
        waitingEndsByALine();
        waitingEndsByAMaskedLineToo();
        linesAskForExceptions();
        masksHoldLinesBack();
        fiqGoesFirst();
        Checks.finish();
    }

    private static void runNeedsANumber() {
        PageGuards x = Code.begun();
        int[] none = {-1, 301, 302, Integer.MIN_VALUE, Integer.MAX_VALUE};
        for (int n : none) {
            Checks.due("run(" + n + ")", x.run(n), -1);
        }
        Checks.due("PC", x.state(Code.PC), 10);
        Checks.due("run(0)", x.run(0), 0);
        Checks.due("PC after run(0)", x.state(Code.PC), 10);
        Checks.due("run(300)", x.run(300), 300);
        Checks.due("PC after run(300)", x.state(Code.PC), 310);
    }

    private static void runStopsWhenItStandsStill() {
        PageGuards x = Code.begun();
        x.poke(13, Code.standStill());
        Checks.due("run(2)", x.run(2), 2);
        Checks.due("run(300)", x.run(300), 2);
        Checks.due("PC", x.state(Code.PC), 13);
        Checks.due("run(300) again", x.run(300), 0);
        x.line(3, true);
        x.line(0, true);
        Checks.due("run(1) with lines", x.run(1), 0);
        Checks.due("state(11)", x.state(11), 2);
    }

    private static void timerRaisesLineZero() {
        PageGuards x = Code.begun();
        Code.control(x, Code.TIMER, 3);
        Checks.due("TIMER", x.state(31), 3);
        x.run(1);
        Checks.due("TIMER", x.state(31), 2);
        x.run(1);
        Checks.due("TIMER", x.state(31), 1);
        Checks.due("lines", x.state(12), 0);
        x.run(1);
        Checks.due("TIMER", x.state(31), 0);
        Checks.due("lines at 0", x.state(12), 1);
        Code.exec(x, Code.lowerLine());
        Checks.due("lines after 26", x.state(12), 0);
        x.run(3);
        Checks.due("lines later", x.state(12), 0);
    }

    private static void timerThatIsZeroDoesNothing() {
        PageGuards x = Code.begun();
        Code.control(x, Code.TIMER, 65536);
        x.run(5);
        Checks.due("lines", x.state(12), 0);
        Code.control(x, Code.TIMER, 5);
        Code.control(x, Code.TIMER, 0);
        x.run(9);
        Checks.due("lines after TIMER 0", x.state(12), 0);
    }

    private static void timerCountsWhileItWaits() {
        PageGuards x = Code.begun();
        Code.control(x, Code.TIMER, 4);
        Code.exec(x, Code.waits());
        Checks.due("PC", x.state(Code.PC), 12);
        Checks.due("run(2)", x.run(2), 2);
        Checks.due("waits", x.state(11), 1);
        Checks.due("TIMER", x.state(31), 1);
        Checks.due("PC while it waits", x.state(Code.PC), 12);
        x.poke(12, Code.let(2, 22));
        Checks.due("run(1)", x.run(1), 1);
        Checks.due("waits no more", x.state(11), 0);
        Checks.due("R2", x.state(2), 22);
        Checks.due("PC after", x.state(Code.PC), 13);
    }

    private static void waitingEndsByALine() {
        for (int line = 0; line < 4; line++) {
            PageGuards x = Code.begun();
            Code.status(x, Code.SYSTEM);
            Code.exec(x, Code.waits());
            Checks.due("run(300)", x.run(300), 300);
            Checks.due("waits", x.state(11), 1);
            x.line(line, true);
            x.run(1);
            Checks.due("waits no more", x.state(11), 0);
            Checks.due("PC by line " + line, x.state(Code.PC), line == 3 ? 6 : 5);
            Checks.due("R7 by line " + line, x.state(7), 12);
        }
    }

    private static void waitingEndsByAMaskedLineToo() {
        PageGuards x = Code.begun();
        Code.exec(x, Code.waits());
        x.line(3, true);
        x.run(1);
        Checks.due("waits no more", x.state(11), 0);
        Checks.due("PC", x.state(Code.PC), 12);
        x.line(3, false);
        x.run(1);
        Checks.due("PC", x.state(Code.PC), 13);
    }

    private static void linesAskForExceptions() {
        for (int line = 0; line < 4; line++) {
            PageGuards x = Code.begun();
            Code.status(x, Code.ABORT | Code.C);
            x.line(line, true);
            x.poke(11, Code.let(0, 9));
            x.run(1);
            int mask = line == 3 ? Code.FIQ | Code.NO_FIQ : Code.IRQ;
            Checks.due("STATUS by line " + line, x.state(Code.STATUS), mask | Code.NO_IRQ | Code.C);
            Checks.due("KEPT by line " + line, x.state(Code.KEPT), Code.ABORT | Code.C);
            Checks.due("R7 by line " + line, x.state(7), 11);
            Checks.due("PC by line " + line, x.state(Code.PC), line == 3 ? 6 : 5);
            Checks.due("R0 by line " + line, x.state(0), 0);
            Checks.due("lines stay UP", x.state(12), 1 << line);
        }
    }

    private static void masksHoldLinesBack() {
        PageGuards x = Code.begun();
        Code.status(x, Code.SYSTEM | Code.NO_IRQ);
        x.line(0, true);
        x.line(1, true);
        x.line(2, true);
        Code.exec(x, Code.let(1, 1));
        Checks.due("R1 with NO IRQ", x.state(1), 1);
        x.line(3, true);
        x.run(1);
        Checks.due("PC by line 3", x.state(Code.PC), 6);
        Code.status(x, Code.SYSTEM | Code.NO_FIQ);
        x.run(1);
        Checks.due("PC with NO FIQ", x.state(Code.PC), 5);
        Checks.due("mode with NO FIQ", x.state(Code.STATUS), Code.IRQ | Code.NO_IRQ | Code.NO_FIQ);
        x.begin(20);
        Code.status(x, Code.SYSTEM | Code.NO_FIQ | Code.NO_IRQ);
        x.run(1);
        Checks.due("PC with both", x.state(Code.PC), 22);
    }

    private static void fiqGoesFirst() {
        PageGuards x = Code.begun();
        Code.status(x, Code.USER);
        for (int line = 0; line < 4; line++) {
            x.line(line, true);
        }
        x.run(1);
        Checks.due("PC", x.state(Code.PC), 6);
        Checks.due("STATUS", x.state(Code.STATUS), Code.FIQ | Code.NO_IRQ | Code.NO_FIQ);
        x.line(3, false);
        Code.exec(x, Code.comeBack());
        Checks.due("PC back", x.state(Code.PC), 11);
        x.run(1);
        Checks.due("PC by IRQ", x.state(Code.PC), 5);
        x.line(3, true);
        x.run(1);
        Checks.due("FIQ in IRQ", x.state(Code.PC), 6);
        Checks.due("KEPT", x.state(Code.KEPT), Code.IRQ | Code.NO_IRQ);
    }
}
