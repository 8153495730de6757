/** Steps: the TIMER at its ends, waiting, lines that ask for exceptions, and how many steps are made. */
public final class StepEdgesTest {
    private static final int WAITS = 11;
    private static final int LINES = 12;
    private static final int TIMER = 31;

    public static void main(String[] args) {
        timerOfOneRaisesTheLine();
        timerOfTwoRaisesItLater();
        timerOfZeroStaysZero();
        timerHasSixteenBits();
        timerRaisesItsLineOnce();
        timerLeavesOtherLines();
        timerIsLessAheadOfTheOperation();
        timerAsksInTheSameStep();
        timerCountsInEveryStep();
        timerRestsWhenItStandsStill();
        waitsAsLongAsNoLineIsUp();
        waitsNoMoreByAnyLine();
        waitEndsInTheStepOfTheTimer();
        waitWithALineUpEndsAtOnce();
        lineThatIsDownAgainEndsNoWait();
        linesAskAsTheStatusLetsThem();
        exceptionOfALineFetchesNothing();
        fetchFaultTellsThePc();
        runTakesZeroToThreeHundred();
        runRefusesOtherNumbers();
        runCountsTheStepThatEndsIt();
        runMakesNoneWhenItStandsStill();
        runCountsStepsOfWaiting();
        whenByEveryFlag();
        numberIsSixteenBitsSigned();
        registersAreThreeBits();
        Checks.finish();
    }

    private static PageGuards timed(int timer) {
        PageGuards x = Code.begun();
        Code.control(x, Code.TIMER, timer);
        return x;
    }

    private static void dueTimer(String what, PageGuards x, int timer, int lines) {
        Checks.due(what + ": TIMER", x.state(TIMER), timer);
        Checks.due(what + ": lines", x.state(LINES), lines);
    }

    /** "the TIMER, if above 0, is 1 less; if it is 0 then, line 0 is UP." */
    private static void timerOfOneRaisesTheLine() {
        PageGuards x = timed(1);
        dueTimer("just written", x, 1, 0);
        x.run(1);
        dueTimer("a step later", x, 0, 1);
    }

    private static void timerOfTwoRaisesItLater() {
        PageGuards x = timed(2);
        x.run(1);
        dueTimer("a step later", x, 1, 0);
        x.run(1);
        dueTimer("two steps later", x, 0, 1);
    }

    private static void timerOfZeroStaysZero() {
        PageGuards x = timed(0);
        x.run(300);
        dueTimer("many steps later", x, 0, 0);
    }

    /** "11 TIMER (16)": of what is written the lowest bits. */
    private static void timerHasSixteenBits() {
        int[] written = {65535, 65536, 65537, -1, Integer.MIN_VALUE, Integer.MAX_VALUE};
        int[] timers = {65535, 0, 1, 65535, 0, 65535};
        for (int i = 0; i < written.length; i++) {
            PageGuards x = timed(written[i]);
            dueTimer("of " + written[i], x, timers[i], 0);
            x.run(1);
            dueTimer("a step later", x, Math.max(timers[i] - 1, 0), timers[i] == 1 ? 1 : 0);
        }
        PageGuards x = timed(300);
        x.run(299);
        dueTimer("ahead of the last of many", x, 1, 0);
        x.run(1);
        dueTimer("after the last of many", x, 0, 1);
    }

    private static void timerRaisesItsLineOnce() {
        PageGuards x = timed(1);
        x.run(1);
        x.line(0, false);
        x.run(300);
        dueTimer("many steps later", x, 0, 0);
    }

    private static void timerLeavesOtherLines() {
        PageGuards x = timed(1);
        x.line(0, true);
        x.line(2, true);
        x.run(1);
        dueTimer("with lines UP", x, 0, 5);
    }

    /** The steps' order: line 0 is raised ahead of an operation 26 that lowers it. */
    private static void timerIsLessAheadOfTheOperation() {
        PageGuards x = timed(1);
        Code.exec(x, Code.lowerLine());
        dueTimer("raised and lowered", x, 0, 0);
        x = timed(2);
        Code.exec(x, Code.readControl(1, Code.TIMER));
        Checks.due("R1", x.state(1), 1);
        x = timed(1);
        Code.control(x, Code.TIMER, 9);
        dueTimer("written in the step that ends it", x, 9, 1);
    }

    private static void timerAsksInTheSameStep() {
        PageGuards x = Code.begun();
        Code.control(x, Code.TIMER, 2);
        Code.status(x, Code.SYSTEM);
        Checks.due("PC", x.state(Code.PC), 12);
        x.poke(12, Code.let(1, 5));
        x.run(1);
        Checks.due("PC by IRQ", x.state(Code.PC), 5);
        Checks.due("R7 by IRQ", x.state(7), 12);
        Checks.due("R1", x.state(1), 0);
    }

    /** Also in steps that end by an exception, or by waiting. */
    private static void timerCountsInEveryStep() {
        PageGuards x = timed(50);
        Code.exec(x, Code.op(31, 0, 0, 0, 0));
        dueTimer("by UNKNOWN", x, 49, 0);
        Code.exec(x, Code.load(0, 0, 600));
        dueTimer("by a fault with data", x, 48, 0);
        Code.exec(x, Code.jump(600));
        x.run(1);
        dueTimer("by a fault with instructions", x, 46, 0);
        Code.exec(x, Code.waits());
        x.run(5);
        dueTimer("by waiting", x, 40, 0);
        x.line(2, true);
        Code.status(x, Code.SYSTEM);
        x.run(1);
        dueTimer("by IRQ", x, 38, 4);
    }

    private static void timerRestsWhenItStandsStill() {
        PageGuards x = timed(5);
        Code.exec(x, Code.standStill());
        dueTimer("by 27 itself", x, 4, 0);
        x.run(300);
        dueTimer("standing still", x, 4, 0);
    }

    /** "A processor that WAITS goes on waiting, which ends the step, if no line is UP". */
    private static void waitsAsLongAsNoLineIsUp() {
        PageGuards x = Tables.on(0, 0);
        Code.exec(x, Code.waits());
        int walks = x.state(Code.WALKS);
        x.poke(14, Code.let(1, 5));
        Checks.due("run(300)", x.run(300), 300);
        Checks.due("it waits", x.state(WAITS), 1);
        Checks.due("PC", x.state(Code.PC), 14);
        Checks.due("walks", x.state(Code.WALKS), walks);
        Checks.due("R1", x.state(1), 0);
    }

    /** "otherwise it waits no more", be the line let through or not. */
    private static void waitsNoMoreByAnyLine() {
        for (int line = 0; line < 4; line++) {
            for (int mask : new int[] {0, Code.NO_IRQ | Code.NO_FIQ}) {
                PageGuards x = Code.begun();
                Code.status(x, Code.SYSTEM | mask);
                Code.exec(x, Code.waits());
                x.poke(12, Code.let(1, 5));
                x.line(line, true);
                Checks.due("it waits until a step", x.state(WAITS), 1);
                x.run(1);
                Checks.due("it waits no more", x.state(WAITS), 0);
                Checks.due("R1 by line " + line, x.state(1), mask == 0 ? 0 : 5);
                Checks.due("PC by line " + line, x.state(Code.PC), mask != 0 ? 13 : line == 3 ? 6 : 5);
            }
        }
    }

    private static void waitEndsInTheStepOfTheTimer() {
        PageGuards x = timed(3);
        Code.exec(x, Code.waits());
        x.poke(12, Code.let(1, 5));
        x.run(1);
        Checks.due("it waits", x.state(WAITS), 1);
        x.run(1);
        Checks.due("it waits no more", x.state(WAITS), 0);
        Checks.due("R1", x.state(1), 5);
    }

    private static void waitWithALineUpEndsAtOnce() {
        for (int line = 0; line < 4; line++) {
            PageGuards x = Code.begun();
            x.line(line, true);
            Code.exec(x, Code.waits());
            Checks.due("it waits", x.state(WAITS), 1);
            Checks.due("the line stays UP", x.state(LINES), 1 << line);
            Checks.due("PC behind 25", x.state(Code.PC), 11);
            Code.exec(x, Code.let(1, 5));
            Checks.due("it waits no more", x.state(WAITS), 0);
            Checks.due("R1", x.state(1), 5);
        }
    }

    private static void lineThatIsDownAgainEndsNoWait() {
        PageGuards x = Code.begun();
        Code.exec(x, Code.waits());
        x.line(0, true);
        x.line(0, false);
        x.run(3);
        Checks.due("it waits", x.state(WAITS), 1);
        Checks.due("PC", x.state(Code.PC), 11);
    }

    /** "(3) If line 3 is UP, and not NO FIQ: exception 6 ..; else if line 0, 1 or 2 is UP ..". */
    private static void linesAskAsTheStatusLetsThem() {
        for (int lines = 0; lines < 16; lines++) {
            for (int mask : new int[] {0, Code.NO_IRQ, Code.NO_FIQ, Code.NO_IRQ | Code.NO_FIQ}) {
                PageGuards x = Code.begun();
                Code.status(x, Code.ABORT | mask);
                for (int line = 0; line < 4; line++) {
                    x.line(line, (lines >> line & 1) != 0);
                }
                x.run(1);
                boolean fiq = lines >= 8 && (mask & Code.NO_FIQ) == 0;
                boolean irq = (lines & 7) != 0 && (mask & Code.NO_IRQ) == 0;
                String what = "with lines " + lines + " and mask " + mask;
                Checks.due("PC " + what, x.state(Code.PC), fiq ? 6 : irq ? 5 : 12);
                int mode = fiq ? Code.FIQ | Code.NO_IRQ | Code.NO_FIQ : irq ? Code.IRQ | Code.NO_IRQ : Code.ABORT;
                Checks.due("STATUS " + what, x.state(Code.STATUS), mask | mode);
                Checks.due("lines " + what, x.state(LINES), lines);
            }
        }
    }

    /** "which ends the step": PC is not even looked up. */
    private static void exceptionOfALineFetchesNothing() {
        for (int line = 0; line < 4; line++) {
            PageGuards x = Tables.on(0, 0);
            Code.status(x, Code.SYSTEM);
            Code.exec(x, Code.jump(600));
            int walks = x.state(Code.WALKS);
            x.line(line, true);
            x.run(1);
            Checks.due("PC by line " + line, x.state(Code.PC), line == 3 ? 6 : 5);
            Checks.due("walks", x.state(Code.WALKS), walks);
            Checks.due("STATE of instructions", x.state(28), 0);
        }
    }

    /** "(a STATE: that and PC into the controls 8 and 9, and exception 3)". */
    private static void fetchFaultTellsThePc() {
        for (int address : new int[] {512, 513, 4095}) {
            PageGuards x = Code.begun();
            Code.control(x, 6, 5);
            Code.control(x, 7, 1234);
            Tables.fetch(x, address);
            Tables.dueFetchFault("at " + address, x, 7, address);
            Checks.due("STATE of data stays", x.state(26), 5);
            Checks.due("ADDRESS of data stays", x.state(27), 1234);
        }
        PageGuards x = Code.begun();
        x.begin(511);
        Checks.due("run(2) over the last place", x.run(2), 2);
        Tables.dueFetchFault("behind 511", x, 7, 512);
    }

    /** "Makes up to n steps": the least and the most that are taken. */
    private static void runTakesZeroToThreeHundred() {
        for (int n : new int[] {0, 1, 2, 299, 300}) {
            PageGuards x = Code.begun();
            Checks.due("run(" + n + ")", x.run(n), n);
            Checks.due("PC after run(" + n + ")", x.state(Code.PC), 10 + n);
        }
    }

    /** "-1 when n is not 0 .. 300", also when it stands still. */
    private static void runRefusesOtherNumbers() {
        for (int n : new int[] {-1, -2, -300, 301, 302, 65536, Integer.MIN_VALUE, Integer.MAX_VALUE}) {
            PageGuards x = timed(9);
            Checks.due("run(" + n + ")", x.run(n), -1);
            Checks.due("PC after run(" + n + ")", x.state(Code.PC), 11);
            dueTimer("after run(" + n + ")", x, 9, 0);
            PageGuards still = new PageGuards(1);
            Checks.due("run(" + n + ") of a new one", still.run(n), -1);
        }
    }

    /** "as long as it doesn't stand still: how many." */
    private static void runCountsTheStepThatEndsIt() {
        for (int n : new int[] {2, 3, 4, 300}) {
            PageGuards x = Code.begun();
            x.poke(12, Code.standStill());
            Checks.due("run(" + n + ")", x.run(n), Math.min(n, 3));
            Checks.due("it stands still", x.state(WAITS), n < 3 ? 0 : 2);
            Checks.due("PC stays", x.state(Code.PC), 12);
        }
    }

    private static void runMakesNoneWhenItStandsStill() {
        PageGuards x = new PageGuards(1);
        Checks.due("run(0) of a new one", x.run(0), 0);
        Checks.due("run(1) of a new one", x.run(1), 0);
        Checks.due("run(300) of a new one", x.run(300), 0);
        x.begin(10);
        Code.exec(x, Code.standStill());
        for (int line = 0; line < 4; line++) {
            x.line(line, true);
        }
        Checks.due("run(300) after 27", x.run(300), 0);
        Checks.due("PC", x.state(Code.PC), 10);
    }

    private static void runCountsStepsOfWaiting() {
        PageGuards x = Code.begun();
        x.poke(10, Code.waits());
        Checks.due("run(1)", x.run(1), 1);
        Checks.due("run(0)", x.run(0), 0);
        Checks.due("run(300)", x.run(300), 300);
    }

    /** "WHEN (0 always, 1 if Z, 2 if not Z, 3 if N is not V)". */
    private static void whenByEveryFlag() {
        for (int flags = 0; flags < 16; flags++) {
            boolean v = (flags & 1) != 0;
            boolean z = (flags & 4) != 0;
            boolean n = (flags & 8) != 0;
            boolean[] done = {true, z, !z, n != v};
            for (int condition = 0; condition < 4; condition++) {
                PageGuards x = Code.begun();
                Code.status(x, Code.SYSTEM | flags << 5);
                Code.exec(x, Code.when(condition, Code.jump(5)));
                Checks.due("WHEN " + condition + " with flags " + flags, x.state(Code.PC), done[condition] ? 16 : 12);
            }
        }
    }

    /** "0 .. 15 n, signed." */
    private static void numberIsSixteenBitsSigned() {
        int[] bits = {0, 1, 0x7FFF, 0x8000, 0x8001, 0xFFFF};
        int[] numbers = {0, 1, 32767, -32768, -32767, -1};
        for (int i = 0; i < bits.length; i++) {
            PageGuards x = Code.begun();
            Code.exec(x, bits[i]);
            Checks.due("R0 = n of " + bits[i], x.state(0), numbers[i]);
            Code.status(x, Code.SYSTEM | Code.Z);
            Code.exec(x, 1 << 24 | 1 << 16 | bits[i]);
            Checks.due("R1 = n of " + bits[i] + " below a WHEN", x.state(1), numbers[i]);
        }
    }

    /** "24 .. 26 d, 21 .. 23 a, 18 .. 20 b". */
    private static void registersAreThreeBits() {
        for (int d = 0; d < 8; d++) {
            for (int a = 0; a < 8; a++) {
                for (int b = 0; b < 8; b++) {
                    PageGuards x = Code.begun();
                    for (int r = 0; r < 8; r++) {
                        x.set(r, 1 << 3 * r);
                    }
                    Code.exec(x, 1 << 27 | d << 24 | a << 21 | b << 18);
                    for (int r = 0; r < 8; r++) {
                        int want = r == d ? (1 << 3 * a) + (1 << 3 * b) : 1 << 3 * r;
                        Checks.due("R" + r + " by R" + d + " = R" + a + " + R" + b, x.state(r), want);
                    }
                }
            }
        }
    }
}
