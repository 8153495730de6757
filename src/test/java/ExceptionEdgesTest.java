/** What is UNKNOWN and what is just not, faults at the first and the last word, and each exception. */
public final class ExceptionEdgesTest {
    private static final int SECOND = 300;
    // Small pages at the addresses 256 .. 287; behind them there is none.
    private static final int PAGE = 256;
    private static final int PLACE = 400;

    public static void main(String[] args) {
        operationsFrom28OnAreUnknown();
        operationsUpTo27AreKnown();
        userMayUpTo20();
        userMayNotFrom21On();
        userMayNotWithOddNumbers();
        unknownChangesNothingElse();
        loadFaultLeavesItsRegister();
        storeFaultLeavesTheWord();
        loadManyFaultsAtEachAddress();
        storeManyFaultsAtEachAddress();
        manyOfNoneHaveNoFault();
        faultsAreToldApart();
        latestFaultIsTold();
        everyExceptionOfEveryMode();
        exceptionInItsOwnModeOverwrites();
        Checks.finish();
    }

    private static PageGuards inMode(int mode) {
        PageGuards x = Code.begun();
        Code.status(x, mode);
        x.set(1, 111);
        return x;
    }

    private static boolean unknown(PageGuards x) {
        return x.state(Code.PC) == 1 && (x.state(Code.STATUS) & 7) == Code.UNKNOWN;
    }

    /** "UNKNOWN are 28 .. 31", in every mode and with every n. */
    private static void operationsFrom28OnAreUnknown() {
        for (int operation = 28; operation < 32; operation++) {
            for (int mode = 0; mode < 6; mode++) {
                for (int n : new int[] {0, 1, -1}) {
                    PageGuards x = inMode(mode);
                    Code.exec(x, Code.op(operation, 1, 1, 1, n));
                    Checks.due(operation + " in mode " + mode, unknown(x), true);
                    Checks.due("KEPT", x.state(Code.KEPT), mode);
                    Checks.due("R7", x.state(7), 12);
                    Checks.due("R1", x.state(1), 111);
                }
            }
        }
    }

    private static void operationsUpTo27AreKnown() {
        for (int operation = 0; operation < 28; operation++) {
            for (int mode = 1; mode < 6; mode++) {
                PageGuards x = inMode(mode);
                Code.exec(x, Code.op(operation, 2, 1, 1, 0));
                Checks.due(operation + " in mode " + mode, unknown(x), false);
            }
        }
    }

    /** "in USER 21 .. 27": 20 is the last that is not. */
    private static void userMayUpTo20() {
        for (int operation = 0; operation <= 20; operation++) {
            PageGuards x = inMode(Code.USER);
            Code.exec(x, Code.op(operation, 2, 1, 1, 0));
            Checks.due(operation + " in USER", unknown(x), false);
            Checks.due("mode after " + operation, x.state(Code.STATUS) & 7, operation == 18 ? 1 : 0);
        }
    }

    private static void userMayNotFrom21On() {
        for (int operation = 21; operation < 28; operation++) {
            for (int n = 0; n < 3; n++) {
                PageGuards x = inMode(Code.USER);
                Code.exec(x, Code.op(operation, 2, 1, 1, n));
                Checks.due(operation + " in USER with n " + n, unknown(x), true);
            }
        }
    }

    /** "19 and 20 with odd n", in USER alone. */
    private static void userMayNotWithOddNumbers() {
        for (int operation = 19; operation < 21; operation++) {
            for (int n : new int[] {-32768, -32767, -2, -1, 0, 1, 2, 3, 32766, 32767}) {
                for (int mode = 0; mode < 6; mode++) {
                    PageGuards x = inMode(mode);
                    x.set(1, mode);
                    Code.exec(x, Code.op(operation, 2, 1, 1, n));
                    boolean want = mode == Code.USER && n % 2 != 0;
                    Checks.due(operation + " in mode " + mode + " with n " + n, unknown(x), want);
                }
            }
        }
    }

    private static void unknownChangesNothingElse() {
        for (int operation = 21; operation < 32; operation++) {
            PageGuards x = Tables.on(1, 0);
            Code.control(x, Code.TIMER, 1000);
            x.line(3, true);
            Code.status(x, Code.NO_FIQ | Code.USER);
            for (int r = 0; r < 8; r++) {
                x.set(r, 70 + r);
            }
            Code.exec(x, Code.op(operation, 2, 3, 4, 0));
            Checks.due("UNKNOWN " + operation, unknown(x), true);
            for (int r = 0; r < 6; r++) {
                Checks.due("R" + r, x.state(r), 70 + r);
            }
            int[] controls = {1, 256, 0, 0, Tables.OPEN_CODE_DOMAIN, 0, 0, 0, 0, 0, 0, 998};
            for (int k = 0; k < 12; k++) {
                Checks.due("control " + k, x.state(20 + k), controls[k]);
            }
            Checks.due("lines", x.state(12), 8);
            Checks.due("state(11)", x.state(11), 0);
            Checks.due("entries", x.state(Code.ENTRIES), 1);
            Checks.due("walks", x.state(Code.WALKS), 1);
        }
    }

    /** Two small pages on the places 400 .. 415 and 416 .. 431, and none behind them. */
    private static PageGuards paged() {
        PageGuards x = Tables.on(1, 0b01);
        x.poke(Tables.FIRST_TABLE + 1, Tables.second(SECOND, 0));
        x.poke(SECOND, Tables.small(PLACE, 3));
        x.poke(SECOND + 1, Tables.small(PLACE + 16, 3));
        return x;
    }

    /** "no register is changed", d and a being the same one too. */
    private static void loadFaultLeavesItsRegister() {
        for (int d = 0; d < 6; d++) {
            for (int a = 0; a < 6; a++) {
                PageGuards x = paged();
                for (int r = 0; r < 6; r++) {
                    x.set(r, 20 + r);
                }
                x.set(a, PAGE + 32);
                Code.exec(x, Code.load(d, a, 0));
                Tables.dueDataFault("behind the pages", x, 2, PAGE + 32);
                for (int r = 0; r < 6; r++) {
                    Checks.due("R" + r, x.state(r), r == a ? PAGE + 32 : 20 + r);
                }
            }
        }
    }

    private static void storeFaultLeavesTheWord() {
        PageGuards x = paged();
        x.poke(SECOND, Tables.small(PLACE, 2));
        x.poke(PLACE, 12);
        Code.status(x, Code.USER);
        Tables.write(x, PAGE, 34);
        Tables.dueDataFault("only to be read", x, 6, PAGE);
        Checks.due("the word", x.word(PLACE), 12);
        Checks.due("R0", x.state(0), 34);
        Checks.due("R1", x.state(1), PAGE);
        x = paged();
        Tables.write(x, PAGE + 31, 56);
        Checks.due("the last word", x.word(PLACE + 31), 56);
        Checks.due("PC", x.state(Code.PC), 14);
    }

    /** "(for 13 and 14 the first address that has one)", be it the first, the last or between. */
    private static void loadManyFaultsAtEachAddress() {
        for (int good = 0; good <= 6; good++) {
            PageGuards x = paged();
            for (int k = 0; k < 32; k++) {
                x.poke(PLACE + k, 1000 + k);
            }
            for (int r = 0; r < 6; r++) {
                x.set(r, 20 + r);
            }
            x.set(6, PAGE + 32 - good);
            Code.exec(x, Code.loadMany(6, 0b111111));
            if (good == 6) {
                Checks.due("PC when all are there", x.state(Code.PC), 14);
                Checks.due("R6", x.state(6), PAGE + 32);
                Checks.due("R5", x.state(5), 1031);
            } else {
                Tables.dueDataFault("after " + good, x, 2, PAGE + 32);
                for (int r = 0; r < 6; r++) {
                    Checks.due("R" + r + " after " + good, x.state(r), 20 + r);
                }
                Code.status(x, Code.SYSTEM);
                Checks.due("R6 after " + good, x.state(6), PAGE + 32 - good);
            }
        }
    }

    /** "words that were stored ahead of it stay". */
    private static void storeManyFaultsAtEachAddress() {
        for (int good = 0; good <= 6; good++) {
            PageGuards x = paged();
            for (int r = 0; r < 6; r++) {
                x.set(r, 20 + r);
            }
            int above = PAGE + 32 - good + 6;
            x.set(6, above);
            Code.exec(x, Code.storeMany(6, 0b111111));
            if (good == 6) {
                Checks.due("PC when all are there", x.state(Code.PC), 14);
                Checks.due("R6", x.state(6), PAGE + 26);
            } else {
                Tables.dueDataFault("after " + good, x, 2, PAGE + 32);
            }
            for (int k = 0; k < 7; k++) {
                int place = PLACE + 32 - good + k;
                Checks.due("word(" + place + ") after " + good, x.word(place), k < good ? 20 + k : 0);
            }
            for (int r = 0; r < 6; r++) {
                Checks.due("R" + r + " after " + good, x.state(r), 20 + r);
            }
            if (good < 6) {
                Code.status(x, Code.SYSTEM);
                Checks.due("R6 after " + good, x.state(6), above);
            }
        }
    }

    /** No address is used, so none can have a STATE. */
    private static void manyOfNoneHaveNoFault() {
        for (int operation = 13; operation < 15; operation++) {
            PageGuards x = paged();
            x.set(3, PAGE + 32);
            Code.exec(x, Code.op(operation, 0, 3, 0, 0));
            Checks.due("PC by " + operation, x.state(Code.PC), 14);
            Checks.due("walks by " + operation, x.state(Code.WALKS), 1);
            Checks.due("R3 by " + operation, x.state(3), PAGE + 32);
        }
    }

    /** "6 STATE and 7 ADDRESS of the latest fault with data, 8 and 9 likewise with instructions". */
    private static void faultsAreToldApart() {
        PageGuards x = paged();
        Tables.read(x, PAGE + 32);
        Checks.due("8 after data", x.state(28), 0);
        Checks.due("9 after data", x.state(29), 0);
        Tables.fetch(x, 4095);
        Checks.due("8", x.state(28), 1);
        Checks.due("9", x.state(29), 4095);
        Checks.due("6 after instructions", x.state(26), 2);
        Checks.due("7 after instructions", x.state(27), PAGE + 32);
    }

    private static void latestFaultIsTold() {
        PageGuards x = paged();
        Tables.read(x, 4095);
        Tables.dueDataFault("4095", x, 1, 4095);
        Tables.read(x, PAGE + 255);
        Tables.dueDataFault("511", x, 2, 511);
        Tables.read(x, PAGE);
        Checks.due("STATE stays when all is well", x.state(26), 2);
        Checks.due("ADDRESS stays when all is well", x.state(27), 511);
    }

    /** Writes the STATUS at 19 and has an exception come at 20, or, if by a fetch, at 600. */
    private static PageGuards raised(int e, int status) {
        int[] codes = {0, Code.op(30, 0, 0, 0, 0), Code.call(), Code.jumpTo(1), Code.load(0, 1, 0), 0, 0};
        PageGuards x = new PageGuards(1);
        x.poke(19, Code.writeStatus(5));
        x.poke(20, codes[e]);
        x.begin(19);
        x.set(1, 600);
        x.set(5, status);
        x.run(e == 3 ? 2 : 1);
        if (e > 4) {
            x.line(e == 5 ? 2 : 3, true);
        }
        Checks.due("run(1)", x.run(1), 1);
        return x;
    }

    /** "EXCEPTION e: the mode that comes .. Its KEPT .. its R7 .. NO IRQ, and for 6 NO FIQ". */
    private static void everyExceptionOfEveryMode() {
        int[] modes = {0, Code.UNKNOWN, Code.SYSTEM, Code.ABORT, Code.ABORT, Code.IRQ, Code.FIQ};
        int[] returns = {0, 21, 21, 600, 20, 20, 20};
        for (int e = 1; e <= 6; e++) {
            for (int mode = 0; mode < 6; mode++) {
                for (int rest = 0; rest < 64; rest++) {
                    int status = mode | rest << 3;
                    boolean masked = e == 5 && (status & Code.NO_IRQ) != 0 || e == 6 && (status & Code.NO_FIQ) != 0;
                    if (!masked) {
                        PageGuards x = raised(e, status);
                        String what = e + " with STATUS " + status;
                        int want = status & ~7 | modes[e] | Code.NO_IRQ | (e == 6 ? Code.NO_FIQ : 0);
                        Checks.due("PC by " + what, x.state(Code.PC), e);
                        Checks.due("STATUS by " + what, x.state(Code.STATUS), want);
                        Checks.due("KEPT by " + what, x.state(Code.KEPT), status);
                        Checks.due("R7 by " + what, x.state(7), returns[e]);
                    }
                }
            }
        }
    }

    private static void exceptionInItsOwnModeOverwrites() {
        PageGuards x = Code.begun();
        Code.exec(x, Code.op(28, 0, 0, 0, 0));
        Checks.due("KEPT", x.state(Code.KEPT), 25);
        Checks.due("R7", x.state(7), 11);
        x.set(6, 66);
        Code.exec(x, Code.op(28, 0, 0, 0, 0));
        Checks.due("KEPT again", x.state(Code.KEPT), 24 | Code.UNKNOWN);
        Checks.due("R7 again", x.state(7), 2);
        Checks.due("R6 stays", x.state(6), 66);
        Checks.due("PC", x.state(Code.PC), 1);
    }
}
