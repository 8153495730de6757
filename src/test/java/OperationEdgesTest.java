/** The operations at the ends of their numbers: registers, shifts, flags, STATUS, controls. */
public final class OperationEdgesTest {
    private static final int MIN = Integer.MIN_VALUE;
    private static final int MAX = Integer.MAX_VALUE;
    private static final int[] ENDS = {MIN, MIN + 1, -32768, -1, 0, 1, 32767, MAX - 1, MAX};
    private static final int[] MOST = {1, 511, 511, 3, 255, 15, 7, 4095, 7, 4095, 4095, 65535};

    public static void main(String[] args) {
        sumsAndProductsWrap();
        sumsWithTheNumberWrap();
        shiftsTakeTheLowestFiveBits();
        compareAtTheEnds();
        compareLeavesTheOtherBits();
        loadManyOfNone();
        loadManyOfAll();
        loadManyOfItself();
        loadManyTakesEightBits();
        storeManyOfNone();
        storeManyOfAll();
        storeManyOfItself();
        storeManyTakesEightBits();
        manyWithAnOwnRegister();
        evenAndOddNumbers();
        statusTakesNineBits();
        statusOfModesSixAndSeven();
        statusInUserTakesTheFlagsAlone();
        keptTakesNineBits();
        keptIsOfEachMode();
        returnOfModesSixAndSeven();
        controlsTakeTheirBits();
        controlsAreApart();
        controlsWithinTheirNumbers();
        controlsOutsideTheirNumbers();
        forgetWithinItsNumbers();
        forgetOutsideItsNumbers();
        lineZeroThatIsDownStaysDown();
        stillIsForEver();
        Checks.finish();
    }

    private static PageGuards done(int operation, int a, int b, int n) {
        PageGuards x = Code.begun();
        x.set(3, a);
        x.set(4, b);
        Code.exec(x, Code.op(operation, 2, 3, 4, n));
        return x;
    }

    /** "(Sums that are addresses keep the lowest 12 bits, others wrap.)" */
    private static void sumsAndProductsWrap() {
        for (int a : ENDS) {
            for (int b : ENDS) {
                Checks.due(a + " + " + b, done(1, a, b, 0).state(2), (int) ((long) a + (long) b));
                Checks.due(a + " - " + b, done(2, a, b, 0).state(2), (int) ((long) a - (long) b));
                Checks.due(a + " * " + b, done(8, a, b, 0).state(2), (int) ((long) a * (long) b));
            }
        }
    }

    private static void sumsWithTheNumberWrap() {
        for (int a : ENDS) {
            for (int n : new int[] {-32768, -1, 0, 1, 32767}) {
                Checks.due(a + " + n " + n, done(9, a, 0, n).state(2), (int) ((long) a + (long) n));
            }
        }
    }

    /** "6 d = a shifted left by n's lowest 5 bits, 7 right, zeros coming." */
    private static void shiftsTakeTheLowestFiveBits() {
        for (int n : new int[] {0, 1, 30, 31, 32, 33, 63, 64, -1, -31, -32, -33, 32767, -32768}) {
            long times = 1L << (n & 31);
            for (int a : ENDS) {
                Checks.due(a + " left by " + n, done(6, a, 0, n).state(2), (int) (a * times));
                long right = (a & 0xFFFFFFFFL) / times;
                Checks.due(a + " right by " + n, done(7, a, 0, n).state(2), (int) right);
            }
        }
    }

    /** "N and Z by a - b, C if a is not less than b as numbers without sign, V if a - b does not fit". */
    private static void compareAtTheEnds() {
        for (int a : ENDS) {
            for (int b : ENDS) {
                long exact = (long) a - (long) b;
                int want = 25;
                want += (int) exact < 0 ? Code.N : 0;
                want += (int) exact == 0 ? Code.Z : 0;
                want += (a & 0xFFFFFFFFL) >= (b & 0xFFFFFFFFL) ? Code.C : 0;
                want += exact > MAX || exact < MIN ? Code.V : 0;
                PageGuards x = done(10, a, b, 0);
                Checks.due("STATUS of " + a + " and " + b, x.state(Code.STATUS), want);
                Checks.due("R2", x.state(2), 0);
            }
        }
    }

    private static void compareLeavesTheOtherBits() {
        for (int low = 0; low < 32; low++) {
            if ((low & 7) < 6) {
                PageGuards x = Code.begun();
                Code.status(x, low | Code.N | Code.V);
                Code.exec(x, Code.compare(0, 0));
                Checks.due("STATUS of " + low, x.state(Code.STATUS), low | Code.Z | Code.C);
            }
        }
    }

    /** "(with none its own lowest 12 bits)". */
    private static void loadManyOfNone() {
        int[] before = {0, 4095, 4096, 4097, -1, -4096, MAX, MIN};
        int[] after = {0, 4095, 0, 1, 4095, 0, 4095, 0};
        for (int i = 0; i < before.length; i++) {
            PageGuards x = Code.begun();
            x.set(3, before[i]);
            x.set(0, 9);
            Code.exec(x, Code.loadMany(3, 0));
            Checks.due("R3 of " + before[i], x.state(3), after[i]);
            Checks.due("R0", x.state(0), 9);
            Checks.due("PC", x.state(Code.PC), 11);
            Checks.due("STATE", x.state(26), 0);
        }
    }

    private static void loadManyOfAll() {
        for (int a = 0; a < 8; a++) {
            PageGuards x = Code.begun();
            for (int k = 0; k < 8; k++) {
                x.poke(504 + k, 8000 + k);
            }
            x.set(a, 504);
            Code.exec(x, Code.loadMany(a, 0xFF));
            for (int r = 0; r < 8; r++) {
                Checks.due("R" + r + " by R" + a, x.state(r), 8000 + r);
            }
        }
    }

    /** "if it is not among them": else a has what was loaded. */
    private static void loadManyOfItself() {
        for (int a = 0; a < 8; a++) {
            PageGuards x = Code.begun();
            x.poke(400, -5);
            x.set(a, 400);
            Code.exec(x, Code.loadMany(a, 1 << a));
            Checks.due("R" + a + " of itself", x.state(a), -5);
            x.set(a, 400);
            Code.exec(x, Code.loadMany(a, 1 << (a + 1 & 7)));
            Checks.due("R" + a + " of its neighbour", x.state(a), 401);
            Checks.due("the neighbour", x.state(a + 1 & 7), -5);
        }
    }

    /** "the registers of n's bits 0 .. 7". */
    private static void loadManyTakesEightBits() {
        PageGuards x = Code.begun();
        x.poke(400, 21);
        x.poke(401, 22);
        x.set(3, 400);
        Code.exec(x, Code.loadMany(3, 0xFF00 | 0x81));
        Checks.due("R0", x.state(0), 21);
        Checks.due("R7", x.state(7), 22);
        Checks.due("R3", x.state(3), 402);
    }

    private static void storeManyOfNone() {
        int[] before = {0, 4095, 4096, 4097, -1, -4096, MAX, MIN};
        int[] after = {0, 4095, 0, 1, 4095, 0, 4095, 0};
        for (int i = 0; i < before.length; i++) {
            PageGuards x = Code.begun();
            x.set(3, before[i]);
            Code.exec(x, Code.storeMany(3, 0));
            Checks.due("R3 of " + before[i], x.state(3), after[i]);
            Checks.due("PC", x.state(Code.PC), 11);
            Checks.due("STATE", x.state(26), 0);
            Checks.due("word(0)", x.word(0), 0);
        }
    }

    /** "14 STORE them, ascending, to a - m, a - m + 1, .., m being how many". */
    private static void storeManyOfAll() {
        for (int a = 0; a < 8; a++) {
            PageGuards x = Code.begun();
            for (int r = 0; r < 8; r++) {
                x.set(r, 9000 + r);
            }
            x.set(a, 512);
            Code.exec(x, Code.storeMany(a, 0xFF));
            for (int r = 0; r < 8; r++) {
                Checks.due("word(" + (504 + r) + ")", x.word(504 + r), r == a ? 512 : 9000 + r);
            }
            Checks.due("word(503)", x.word(503), 0);
            Checks.due("R" + a, x.state(a), 504);
        }
    }

    /** "and then a becomes the address a - m": what is stored of a is what it was. */
    private static void storeManyOfItself() {
        for (int a = 0; a < 8; a++) {
            PageGuards x = Code.begun();
            x.set(a, 400 - 4096);
            Code.exec(x, Code.storeMany(a, 1 << a));
            Checks.due("word(399) of R" + a, x.word(399), 400 - 4096);
            Checks.due("R" + a, x.state(a), 399);
        }
    }

    private static void storeManyTakesEightBits() {
        PageGuards x = Code.begun();
        x.set(0, 21);
        x.set(7, 22);
        x.set(3, 400);
        Code.exec(x, Code.storeMany(3, 0xFF00 | 0x81));
        Checks.due("word(397)", x.word(397), 0);
        Checks.due("word(398)", x.word(398), 21);
        Checks.due("word(399)", x.word(399), 22);
        Checks.due("R3", x.state(3), 398);
    }

    /** "each mode has its own R6 and R7", and R5 is the last that all have together. */
    private static void manyWithAnOwnRegister() {
        for (int mode = 1; mode < 6; mode++) {
            PageGuards x = Code.begun();
            Code.status(x, mode);
            x.poke(400, 55);
            x.poke(401, 66);
            x.poke(402, 77);
            x.set(0, 400);
            Code.exec(x, Code.loadMany(0, 0b11100000));
            Checks.due("R6 of mode " + mode, x.state(6), 66);
            x.set(1, mode == 1 ? 2 : 1);
            Code.exec(x, Code.writeStatus(1));
            Checks.due("R5 of all", x.state(5), 55);
            Checks.due("R6 of another", x.state(6), 0);
            Checks.due("R7 of another", x.state(7), 0);
            x.set(1, mode);
            Code.exec(x, Code.writeStatus(1));
            Checks.due("R6 of mode " + mode + " again", x.state(6), 66);
            Checks.due("R7 of mode " + mode + " again", x.state(7), 77);
        }
    }

    /** "(n even) or the KEPT one (odd)", below 0 and at the ends too. */
    private static void evenAndOddNumbers() {
        for (int n : new int[] {0, 1, 2, 3, -1, -2, 32766, 32767, -32768, -32767}) {
            boolean odd = n % 2 != 0;
            PageGuards x = Code.begun();
            x.set(1, Code.FIQ | Code.Z);
            Code.exec(x, Code.writeKept(1), Code.op(19, 2, 0, 0, n));
            Checks.due("R2 by n " + n, x.state(2), odd ? Code.FIQ | Code.Z : 25);
            x.set(1, Code.IRQ | Code.V);
            Code.exec(x, Code.op(20, 0, 1, 0, n));
            Checks.due("STATUS by n " + n, x.state(Code.STATUS), odd ? 25 : Code.IRQ | Code.V);
            Checks.due("KEPT by n " + n, x.state(Code.KEPT), odd ? Code.IRQ | Code.V : 0);
        }
    }

    /** "the STATUS becomes the lowest 9 bits of a". */
    private static void statusTakesNineBits() {
        int[] written = {0x1FD, 0x3FD, 0x201, -512 + 2, MIN + 4, MAX - 511 + 5};
        int[] got = {0x1FD, 0x1FD, 1, 2, 4, 5};
        for (int i = 0; i < written.length; i++) {
            PageGuards x = Code.begun();
            Code.status(x, written[i]);
            Checks.due("STATUS of " + written[i], x.state(Code.STATUS), got[i]);
        }
    }

    /** "(mode 6 or 7: UNKNOWN)": 5 is the last that stays as it is. */
    private static void statusOfModesSixAndSeven() {
        for (int mode = 0; mode < 8; mode++) {
            for (int rest : new int[] {0, 0x1F8}) {
                PageGuards x = Code.begun();
                Code.status(x, mode | rest);
                int want = mode > 5 ? Code.UNKNOWN : mode;
                Checks.due("STATUS of mode " + mode, x.state(Code.STATUS), want | rest);
                Checks.due("PC", x.state(Code.PC), 11);
            }
        }
    }

    /** "in USER bits 5 .. 8 alone do". */
    private static void statusInUserTakesTheFlagsAlone() {
        for (int bit = 0; bit < 32; bit++) {
            PageGuards x = Code.begun();
            Code.status(x, Code.USER | Code.NO_FIQ);
            Code.status(x, 1 << bit);
            boolean flag = bit >= 5 && bit <= 8;
            Checks.due("STATUS of bit " + bit, x.state(Code.STATUS), Code.NO_FIQ | (flag ? 1 << bit : 0));
            Code.status(x, -1);
            Checks.due("STATUS of all bits", x.state(Code.STATUS), 0x1E0 | Code.NO_FIQ);
            Code.status(x, 0);
            Checks.due("STATUS of none", x.state(Code.STATUS), Code.NO_FIQ);
        }
    }

    /** "odd: the KEPT one does", the modes 6 and 7 as they are. */
    private static void keptTakesNineBits() {
        int[] written = {0, 511, 512, -1, 6, 7, MIN, MAX};
        int[] got = {0, 511, 0, 511, 6, 7, 0, 511};
        for (int i = 0; i < written.length; i++) {
            PageGuards x = Code.begun();
            x.set(4, written[i]);
            Code.exec(x, Code.writeKept(4), Code.readKept(2));
            Checks.due("KEPT of " + written[i], x.state(Code.KEPT), got[i]);
            Checks.due("R2 of " + written[i], x.state(2), got[i]);
            Checks.due("STATUS stays", x.state(Code.STATUS), 25);
        }
    }

    /** "each mode but USER has a KEPT status". */
    private static void keptIsOfEachMode() {
        PageGuards x = Code.begun();
        for (int mode = 1; mode < 6; mode++) {
            Code.status(x, mode);
            x.set(4, mode * 50);
            Code.exec(x, Code.writeKept(4));
        }
        for (int mode = 5; mode > 0; mode--) {
            Code.status(x, mode);
            Checks.due("KEPT of mode " + mode, x.state(Code.KEPT), mode * 50);
        }
        Code.status(x, Code.USER);
        Checks.due("KEPT in USER", x.state(Code.KEPT), 0);
    }

    /** "21 PC = R7 and STATUS = KEPT (of mode 6 or 7: UNKNOWN)." */
    private static void returnOfModesSixAndSeven() {
        for (int mode = 0; mode < 8; mode++) {
            for (int rest : new int[] {0, 0x1F8}) {
                PageGuards x = Code.begun();
                x.set(4, mode | rest);
                x.set(7, 99);
                Code.exec(x, Code.writeKept(4), Code.comeBack());
                int want = mode > 5 ? Code.UNKNOWN : mode;
                Checks.due("STATUS of mode " + mode, x.state(Code.STATUS), want | rest);
                Checks.due("PC", x.state(Code.PC), 99);
            }
        }
    }

    /** "CONTROLS, each of so many bits (of what is written the lowest)". */
    private static void controlsTakeTheirBits() {
        for (int k = 0; k < 12; k++) {
            for (int v : new int[] {0, MOST[k], MOST[k] + 1, -1, MIN, MAX}) {
                PageGuards x = Code.begun();
                Code.control(x, k, v);
                int want = v == 0 || v == MOST[k] + 1 || v == MIN ? 0 : MOST[k];
                Checks.due("control " + k + " of " + v, x.state(20 + k), want);
            }
        }
    }

    private static void controlsAreApart() {
        for (int k = 0; k < 12; k++) {
            PageGuards x = Code.begun();
            Code.control(x, k, -1);
            for (int other = 0; other < 12; other++) {
                Checks.due("control " + other + " by " + k, x.state(20 + other), other == k ? MOST[k] : 0);
            }
        }
    }

    /** "22 d = control n": n 0 and n 11 are the ends. */
    private static void controlsWithinTheirNumbers() {
        for (int k = 0; k < 12; k++) {
            PageGuards x = Code.begun();
            x.poke(0, Tables.CODE_SECTION);
            Code.control(x, Code.DOMAINS, Tables.OPEN_CODE_DOMAIN);
            if (k != Code.TABLE && k != Code.DOMAINS) {
                Code.control(x, k, 3);
            }
            int before = x.state(20 + k);
            x.set(2, -9);
            Code.exec(x, Code.readControl(2, k));
            Checks.due("R2 of control " + k, x.state(2), k == Code.TIMER ? before - 1 : before);
            Checks.due("mode", x.state(Code.STATUS) & 7, Code.SYSTEM);
        }
    }

    /** "everywhere 22 and 23 with n not 0 .. 11". */
    private static void controlsOutsideTheirNumbers() {
        for (int n : new int[] {-1, 12, 13, 15, 16, 20, 31, 256, 4096, 32767, -12, -32768}) {
            for (int mode = 0; mode < 6; mode++) {
                for (int operation = 22; operation < 24; operation++) {
                    PageGuards x = Code.begun();
                    Code.status(x, mode);
                    x.set(1, -1);
                    Code.exec(x, Code.op(operation, 1, 1, 1, n));
                    Checks.due("PC by " + operation + " with n " + n, x.state(Code.PC), 1);
                    Checks.due("mode by " + operation + " with n " + n, x.state(Code.STATUS) & 7, Code.UNKNOWN);
                    Checks.due("R1", x.state(1), -1);
                    for (int k = 0; k < 12; k++) {
                        Checks.due("control " + k, x.state(20 + k), 0);
                    }
                }
            }
        }
    }

    private static void forgetWithinItsNumbers() {
        for (int mode = 1; mode < 6; mode++) {
            for (int n = 0; n <= 2; n++) {
                PageGuards x = Code.begun();
                Code.status(x, mode);
                Code.exec(x, Code.forget(n, 0));
                Checks.due("PC by 24 with n " + n + " in mode " + mode, x.state(Code.PC), 12);
            }
        }
    }

    /** "and 24 with n not 0 .. 2: exception 1": nothing is forgotten. */
    private static void forgetOutsideItsNumbers() {
        for (int n : new int[] {-1, 3, 4, 5, 6, 256, 32767, -32768, -32767, -32766}) {
            for (int mode = 0; mode < 6; mode++) {
                PageGuards x = Tables.on(1, 0);
                Code.status(x, mode);
                x.set(4, 0);
                Code.exec(x, Code.forget(n, 4));
                Checks.due("PC by 24 with n " + n, x.state(Code.PC), 1);
                Checks.due("mode by 24 with n " + n, x.state(Code.STATUS) & 7, Code.UNKNOWN);
                Checks.due("entries", x.state(Code.ENTRIES), 1);
            }
        }
    }

    /** "26 line 0 is not UP any more", and no other line goes down. */
    private static void lineZeroThatIsDownStaysDown() {
        for (int lines = 0; lines < 16; lines++) {
            PageGuards x = Code.begun();
            for (int line = 0; line < 4; line++) {
                x.line(line, (lines >> line & 1) != 0);
            }
            Code.exec(x, Code.lowerLine());
            Checks.due("lines of " + lines, x.state(12), lines & 14);
        }
    }

    /** "27 it STANDS STILL for ever (PC stays)." */
    private static void stillIsForEver() {
        for (int mode = 1; mode < 6; mode++) {
            PageGuards x = Code.begun();
            Code.control(x, Code.TIMER, 3);
            Code.status(x, mode);
            Code.exec(x, Code.standStill());
            x.poke(12, Code.let(0, 1));
            x.line(3, true);
            Checks.due("run(300) in mode " + mode, x.run(300), 0);
            Checks.due("PC in mode " + mode, x.state(Code.PC), 12);
            Checks.due("state(11)", x.state(11), 2);
            Checks.due("STATUS", x.state(Code.STATUS), mode);
        }
    }
}
