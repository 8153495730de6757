/** Promise 7: what the operations 0 .. 27 do when nothing goes wrong, and WHEN. */
public final class OperationsTest {
    private static final int MIN = Integer.MIN_VALUE;
    private static final int MAX = Integer.MAX_VALUE;

    public static void main(String[] args) {
        operationsCompute();
        shiftsTakeFiveBits();
        compareSetsFlags();
        whenIsObeyed();
        loadAndStore();
        loadManyTakesAscending();
        loadManyWithNoneOrItself();
        storeManyGoesBelow();
        storeManyWithNoneOrItself();
        manyRegistersAtTheEdges();
        placeZeroIsOneToo();
        jumps();
        statusIsReadAndWritten();
        comesBackByKept();
        controlsAreReadAndWritten();
        lineZeroIsLowered();
        Checks.finish();
    }

    /** Does operation(d = 2, a = 3, b = 4) on two numbers: what R2 becomes. */
    private static int result(int operation, int a, int b, int n) {
        PageGuards x = Code.begun();
        x.set(2, 123456789);
        x.set(3, a);
        x.set(4, b);
        Code.exec(x, Code.op(operation, 2, 3, 4, n));
        Checks.due("PC after " + operation, x.state(Code.PC), 11);
        Checks.due("R3 after " + operation, x.state(3), a);
        Checks.due("R4 after " + operation, x.state(4), b);
        Checks.due("STATUS after " + operation, x.state(Code.STATUS), 25);
        return x.state(2);
    }

    private static void operationsCompute() {
        int[] numbers = {0, 1, -1, 7, -3, 0x5A5A5A5A, MIN, MAX, 4096, 70000};
        for (int a : numbers) {
            for (int b : numbers) {
                Checks.due(a + " + " + b, result(1, a, b, 5), (int) ((long) a + b));
                Checks.due(a + " - " + b, result(2, a, b, 5), (int) ((long) a - b));
                Checks.due(a + " & " + b, result(3, a, b, 5), a & b);
                Checks.due(a + " | " + b, result(4, a, b, 5), a | b);
                Checks.due(a + " ^ " + b, result(5, a, b, 5), a ^ b);
                Checks.due(a + " * " + b, result(8, a, b, 5), (int) ((long) a * b));
            }
        }
        for (int n : new int[] {0, 1, -1, 32767, -32768}) {
            Checks.due("let " + n, result(0, 8, 9, n), n);
            Checks.due("1000 + " + n, result(9, 1000, 9, n), 1000 + n);
        }
        Checks.due("max + 1", result(9, MAX, 9, 1), MIN);
        Checks.due("min - 1", result(9, MIN, 9, -1), MAX);
    }

    private static void shiftsTakeFiveBits() {
        Checks.due("5 << 0", result(6, 5, 9, 0), 5);
        Checks.due("5 << 3", result(6, 5, 9, 3), 40);
        Checks.due("5 << 31", result(6, 5, 9, 31), MIN);
        Checks.due("5 << 32", result(6, 5, 9, 32), 5);
        Checks.due("5 << -1", result(6, 5, 9, -1), MIN);
        Checks.due("-1 >> 0", result(7, -1, 9, 0), -1);
        Checks.due("-1 >> 1", result(7, -1, 9, 1), MAX);
        Checks.due("-1 >> 31", result(7, -1, 9, 31), 1);
        Checks.due("-1 >> 36", result(7, -1, 9, 36), 0x0FFFFFFF);
        Checks.due("64 >> -27", result(7, 64, 9, -27), 2);
    }

    private static void dueFlags(int a, int b, int flags) {
        PageGuards x = Code.begun();
        x.set(3, a);
        x.set(4, b);
        Code.exec(x, Code.compare(3, 4));
        Checks.due("flags of " + a + " and " + b, x.state(Code.STATUS), 25 | flags);
        Code.status(x, Code.ABORT | Code.N | Code.Z | Code.C | Code.V);
        Code.exec(x, Code.compare(3, 4));
        Checks.due("flags again of " + a + " and " + b, x.state(Code.STATUS), Code.ABORT | flags);
        Checks.due("PC", x.state(Code.PC), 13);
    }

    private static void compareSetsFlags() {
        dueFlags(0, 0, Code.Z | Code.C);
        dueFlags(5, 3, Code.C);
        dueFlags(3, 5, Code.N);
        dueFlags(-1, 1, Code.N | Code.C);
        dueFlags(1, -1, 0);
        dueFlags(-5, -3, Code.N);
        dueFlags(-3, -5, Code.C);
        dueFlags(MIN, 1, Code.C | Code.V);
        dueFlags(MAX, -1, Code.N | Code.V);
        dueFlags(0, MIN, Code.N | Code.V);
        dueFlags(MIN, 0, Code.N | Code.C);
        dueFlags(MIN, MIN, Code.Z | Code.C);
        dueFlags(MIN, MAX, Code.C | Code.V);
        dueFlags(MAX, MIN, Code.N | Code.V);
        dueFlags(-1, MAX, Code.N | Code.C);
        dueFlags(-2, MAX, Code.C | Code.V);
    }

    private static void whenIsObeyed() {
        int[] flags = {0, Code.Z, Code.N, Code.V, Code.N | Code.V, Code.C, Code.N | Code.Z, Code.Z | Code.V};
        String[] done = {"1010", "1100", "1011", "1011", "1010", "1010", "1101", "1101"};
        for (int i = 0; i < flags.length; i++) {
            for (int condition = 0; condition < 4; condition++) {
                PageGuards x = Code.begun();
                Code.status(x, Code.SYSTEM | flags[i]);
                Code.exec(x, Code.when(condition, Code.let(1, 5)));
                int want = done[i].charAt(condition) == '1' ? 5 : 0;
                Checks.due("WHEN " + condition + " with flags " + flags[i], x.state(1), want);
                Checks.due("PC", x.state(Code.PC), 12);
            }
        }
        PageGuards x = Code.begun();
        int[] codes = {Code.jump(9), Code.call(), Code.standStill(), Code.waits(), Code.op(31, 0, 0, 0, 0),
            Code.op(22, 1, 0, 0, 99), Code.load(1, 1, 600), Code.comeBack(), Code.writeControl(0, 1)};
        x.set(1, 1);
        for (int i = 0; i < codes.length; i++) {
            Code.exec(x, Code.when(1, codes[i]));
            Checks.due("PC behind what is not done", x.state(Code.PC), 11 + i);
            Checks.due("STATUS behind what is not done", x.state(Code.STATUS), 25);
            Checks.due("state(11) behind what is not done", x.state(11), 0);
        }
        Checks.due("ON", x.state(20), 0);
        Checks.due("R1", x.state(1), 1);
    }

    private static void loadAndStore() {
        PageGuards x = Code.begun();
        x.poke(300, -77);
        x.set(3, 310);
        Code.exec(x, Code.load(2, 3, -10));
        Checks.due("R2", x.state(2), -77);
        Checks.due("R3", x.state(3), 310);
        x.set(3, 0x7FFFF000 + 300);
        Code.exec(x, Code.load(4, 3, 0));
        Checks.due("R4 by the lowest 12 bits", x.state(4), -77);
        x.set(3, 4095);
        Code.exec(x, Code.store(2, 3, 401));
        Checks.due("word(400)", x.word(400), -77);
        x.set(3, 511);
        Code.exec(x, Code.store(3, 3, 0));
        Checks.due("word(511)", x.word(511), 511);
        x.set(3, 3);
        x.poke(2, 55);
        Code.exec(x, Code.load(3, 3, -4097));
        Checks.due("R3 of itself", x.state(3), 55);
        Checks.due("PC", x.state(Code.PC), 15);
        Checks.due("walks when not ON", x.state(Code.WALKS), 0);
    }

    private static void loadManyTakesAscending() {
        PageGuards x = Code.begun();
        for (int k = 0; k < 8; k++) {
            x.poke(300 + k, 1000 + k);
        }
        x.set(3, 300);
        Code.exec(x, Code.loadMany(3, 0b10100110));
        int[] want = {0, 1000, 1001, 304, 0, 1002, 0, 1003};
        for (int r = 0; r < 8; r++) {
            Checks.due("R" + r, x.state(r), want[r]);
        }
        Checks.due("PC", x.state(Code.PC), 11);
    }

    private static void loadManyWithNoneOrItself() {
        PageGuards x = Code.begun();
        x.set(3, -1);
        Code.exec(x, Code.loadMany(3, 0));
        Checks.due("R3 with none", x.state(3), 4095);
        x.set(3, 5000);
        Code.exec(x, Code.loadMany(3, 0x100));
        Checks.due("R3 with a bit above 7", x.state(3), 5000 - 4096);
        x.poke(300, 71);
        x.poke(301, -72);
        x.poke(302, 73);
        x.set(3, 300);
        Code.exec(x, Code.loadMany(3, 0b00011100));
        Checks.due("R2", x.state(2), 71);
        Checks.due("R3 among them", x.state(3), -72);
        Checks.due("R4", x.state(4), 73);
        Checks.due("STATUS", x.state(Code.STATUS), 25);
    }

    private static void storeManyGoesBelow() {
        PageGuards x = Code.begun();
        for (int r = 0; r < 8; r++) {
            x.set(r, 500 + r);
        }
        x.set(0, 310);
        Code.exec(x, Code.storeMany(0, 0b10100110));
        Checks.due("word(305)", x.word(305), 0);
        Checks.due("word(306)", x.word(306), 501);
        Checks.due("word(307)", x.word(307), 502);
        Checks.due("word(308)", x.word(308), 505);
        Checks.due("word(309)", x.word(309), 507);
        Checks.due("word(310)", x.word(310), 0);
        Checks.due("R0", x.state(0), 306);
        Checks.due("R1", x.state(1), 501);
    }

    private static void storeManyWithNoneOrItself() {
        PageGuards x = Code.begun();
        x.set(3, -4);
        Code.exec(x, Code.storeMany(3, 0));
        Checks.due("R3 with none", x.state(3), 4092);
        x.set(3, 4096);
        x.poke(0, 44);
        Code.exec(x, Code.storeMany(3, 0xFF00));
        Checks.due("R3 with bits above 7", x.state(3), 0);
        Checks.due("word(0) with bits above 7", x.word(0), 44);
        x.set(2, 22);
        x.set(3, 4096 + 302);
        Code.exec(x, Code.storeMany(3, 0b1100));
        Checks.due("word(300)", x.word(300), 22);
        Checks.due("word(301) is what a was", x.word(301), 4096 + 302);
        Checks.due("R3", x.state(3), 300);
    }

    private static void manyRegistersAtTheEdges() {
        PageGuards x = Code.begun();
        x.set(3, 512);
        x.set(6, 66);
        x.set(7, 77);
        Code.exec(x, Code.storeMany(3, 0xC0));
        Checks.due("word(510)", x.word(510), 66);
        Checks.due("word(511)", x.word(511), 77);
        Checks.due("R3", x.state(3), 510);
        Code.status(x, Code.ABORT);
        Code.exec(x, Code.loadMany(3, 0xC0));
        Checks.due("R6 of ABORT", x.state(6), 66);
        Checks.due("R7 of ABORT", x.state(7), 77);
        Checks.due("R3 behind the last", x.state(3), 512);
        x.set(6, 5);
        Code.status(x, Code.SYSTEM);
        Checks.due("R6 of SYSTEM", x.state(6), 66);
    }

    private static void placeZeroIsOneToo() {
        PageGuards x = Code.begun();
        x.set(0, 5);
        x.set(3, 4096);
        Code.exec(x, Code.store(0, 3, 0));
        Checks.due("word(0)", x.word(0), 5);
        Code.exec(x, Code.load(1, 3, 0));
        Checks.due("R1", x.state(1), 5);
        x.set(3, 2);
        x.set(4, 6);
        Code.exec(x, Code.storeMany(3, 0b10010));
        Checks.due("R3 below", x.state(3), 0);
        Checks.due("word(1)", x.word(1), 6);
        x.set(0, 1);
        Code.exec(x, Code.loadMany(3, 0b00101));
        Checks.due("R0", x.state(0), 5);
        Checks.due("R2", x.state(2), 6);
        Checks.due("R3 behind", x.state(3), 2);
        Checks.due("PC", x.state(Code.PC), 14);
        x.begin(0);
        Code.exec(x, Code.let(5, 8));
        Checks.due("R5", x.state(5), 8);
        Checks.due("PC behind 0", x.state(Code.PC), 1);
    }

    private static void jumps() {
        PageGuards x = Code.begun();
        Code.exec(x, Code.jump(5));
        Checks.due("PC + 5", x.state(Code.PC), 15);
        Code.exec(x, Code.jump(-6));
        Checks.due("PC - 6", x.state(Code.PC), 9);
        Code.exec(x, Code.jump(0));
        Checks.due("PC + 0", x.state(Code.PC), 9);
        Code.exec(x, Code.jump(-10));
        Checks.due("PC below 0", x.state(Code.PC), 4095);
        x.begin(20);
        Code.exec(x, Code.op(16, 3, 2, 1, 30));
        Checks.due("PC by 16", x.state(Code.PC), 50);
        Checks.due("R7 by 16", x.state(7), 21);
        Checks.due("R3 by 16", x.state(3), 0);
        x.set(1, 0x12345000 + 60);
        Code.exec(x, Code.jumpTo(1));
        Checks.due("PC by 17", x.state(Code.PC), 60);
        Checks.due("R7 by 17", x.state(7), 21);
        Code.exec(x, Code.jump(32767));
        Checks.due("PC far", x.state(Code.PC), 60 + 32767 & 4095);
    }

    private static void statusIsReadAndWritten() {
        PageGuards x = Code.begun();
        Code.status(x, -1 - 7 + Code.ABORT);
        Checks.due("the lowest 9 bits", x.state(Code.STATUS), 0x1F8 | Code.ABORT);
        Code.exec(x, Code.readStatus(1));
        Checks.due("R1", x.state(1), 0x1F8 | Code.ABORT);
        Code.status(x, Code.Z | 6);
        Checks.due("mode 6", x.state(Code.STATUS), Code.Z | Code.UNKNOWN);
        Code.status(x, 7);
        Checks.due("mode 7", x.state(Code.STATUS), Code.UNKNOWN);
        x.set(4, -1);
        Code.exec(x, Code.writeKept(4), Code.readKept(2));
        Checks.due("KEPT", x.state(Code.KEPT), 511);
        Checks.due("R2", x.state(2), 511);
        Checks.due("STATUS stays", x.state(Code.STATUS), Code.UNKNOWN);
        Code.exec(x, Code.op(19, 3, 0, 0, -1), Code.op(19, 4, 0, 0, -2));
        Checks.due("R3 by an odd n", x.state(3), 511);
        Checks.due("R4 by an even n", x.state(4), Code.UNKNOWN);
        Code.status(x, Code.USER);
        Code.status(x, -1);
        Checks.due("in USER the flags alone", x.state(Code.STATUS), 0x1E0);
        Code.status(x, Code.FIQ | Code.NO_IRQ | Code.C);
        Checks.due("in USER the flags again", x.state(Code.STATUS), Code.C);
        Code.exec(x, Code.readStatus(1));
        Checks.due("R1 in USER", x.state(1), Code.C);
    }

    private static void comesBackByKept() {
        PageGuards x = Code.begun();
        x.set(7, 4096 * 3 + 40);
        x.set(4, Code.IRQ | Code.V | Code.NO_FIQ);
        Code.exec(x, Code.writeKept(4), Code.comeBack());
        Checks.due("PC", x.state(Code.PC), 40);
        Checks.due("STATUS", x.state(Code.STATUS), Code.IRQ | Code.V | Code.NO_FIQ);
        x.set(7, 50);
        x.set(4, Code.N | 7);
        Code.exec(x, Code.writeKept(4), Code.comeBack());
        Checks.due("STATUS of mode 7", x.state(Code.STATUS), Code.N | Code.UNKNOWN);
        x.set(4, Code.NO_IRQ | 6);
        Code.exec(x, Code.writeKept(4), Code.comeBack());
        Checks.due("STATUS of mode 6", x.state(Code.STATUS), Code.NO_IRQ | Code.UNKNOWN);
        Checks.due("PC by R7 of UNKNOWN", x.state(Code.PC), 0);
    }

    private static void controlsAreReadAndWritten() {
        PageGuards x = Code.begun();
        for (int k = 1; k < 11; k++) {
            Code.control(x, k, -2);
            Code.exec(x, Code.readControl(1, k));
            Checks.due("control " + k, x.state(1), x.state(20 + k));
            Checks.due("control " + k + " is not 0", x.state(1) != 0, true);
        }
        Code.control(x, Code.TIMER, 0x12345);
        Code.exec(x, Code.readControl(1, Code.TIMER));
        Checks.due("TIMER, a step later", x.state(1), 0x2344);
        Code.exec(x, Code.readControl(1, Code.ON));
        Checks.due("ON", x.state(1), 0);
    }

    private static void lineZeroIsLowered() {
        PageGuards x = Code.begun();
        for (int line = 0; line < 4; line++) {
            x.line(line, true);
        }
        Code.exec(x, Code.lowerLine());
        Checks.due("lines", x.state(12), 14);
        Code.exec(x, Code.lowerLine());
        Checks.due("lines again", x.state(12), 14);
        Checks.due("PC", x.state(Code.PC), 12);
    }
}
