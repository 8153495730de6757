/** Promise 7: what is UNKNOWN, and what each exception does. */
public final class ExceptionsTest {
    private static final int START = Code.NO_FIQ | Code.Z | Code.V;

    public static void main(String[] args) {
        unknownEverywhere();
        unknownInUserAlone();
        callKeepsWhatWas();
        returnsStayWithinAddresses();
        dataFaultsAreTold();
        loadManyStopsAtTheFirstFault();
        storeManyKeepsWhatWasStored();
        fetchFaultsAreTold();
        vectorsAreObeyed();
        modesKeepTheirOwn();
        Checks.finish();
    }

    private static void dueUnknown(String what, PageGuards x, int status) {
        Checks.due(what + ": PC", x.state(Code.PC), 1);
        Checks.due(what + ": KEPT", x.state(Code.KEPT), status);
        Checks.due(what + ": R7", x.state(7), 12);
        int want = status & ~7 | Code.UNKNOWN | Code.NO_IRQ;
        Checks.due(what + ": STATUS", x.state(Code.STATUS), want);
    }

    private static PageGuards inMode(int mode) {
        PageGuards x = Code.begun();
        Code.status(x, mode | START);
        return x;
    }

    private static void unknownEverywhere() {
        int[] codes = {Code.op(28, 1, 1, 1, 0), Code.op(29, 1, 1, 1, 1), Code.op(30, 1, 1, 1, 0),
            Code.op(31, 1, 1, 1, 0), Code.readControl(1, 12), Code.readControl(1, -1),
            Code.writeControl(12, 1), Code.writeControl(-1, 1), Code.readControl(1, 32767),
            Code.writeControl(-32768, 1), Code.forget(3, 1), Code.forget(-1, 1)};
        for (int code : codes) {
            for (int mode = 0; mode < 6; mode++) {
                PageGuards x = inMode(mode);
                x.set(1, 11);
                Code.exec(x, code);
                dueUnknown("operation " + (code >>> 27) + " in mode " + mode, x, mode | START);
                Checks.due("R1", x.state(1), 11);
            }
        }
    }

    private static void unknownInUserAlone() {
        int[] codes = {Code.comeBack(), Code.readControl(1, 1), Code.writeControl(1, 1), Code.forget(0, 1),
            Code.waits(), Code.lowerLine(), Code.standStill(), Code.readKept(1), Code.writeKept(1),
            Code.op(19, 1, 0, 0, -1), Code.op(20, 0, 1, 0, 3)};
        for (int code : codes) {
            PageGuards x = inMode(Code.USER);
            x.set(1, 11);
            x.line(3, true);
            Code.exec(x, code);
            dueUnknown("operation " + (code >>> 27) + " in USER", x, START);
            Checks.due("R1", x.state(1), 11);
            Checks.due("TABLE", x.state(21), 0);
            Checks.due("state(11)", x.state(11), 0);
            Checks.due("lines", x.state(12), 8);
            for (int mode = 1; mode < 6; mode++) {
                PageGuards y = inMode(mode);
                Code.exec(y, code);
                Checks.due("not at vector 1", y.state(Code.PC) != 1, true);
            }
        }
        int[] open = {Code.readStatus(1), Code.writeStatus(1), Code.op(19, 1, 0, 0, 2), Code.jump(1)};
        for (int code : open) {
            PageGuards x = inMode(Code.USER);
            Code.exec(x, code);
            Checks.due("USER goes on", x.state(Code.PC), 12);
        }
    }

    private static void callKeepsWhatWas() {
        for (int mode = 0; mode < 6; mode++) {
            PageGuards x = inMode(mode);
            Code.exec(x, Code.call());
            Checks.due("PC by a call", x.state(Code.PC), 2);
            Checks.due("KEPT by a call", x.state(Code.KEPT), mode | START);
            Checks.due("R7 by a call", x.state(7), 12);
            Checks.due("STATUS by a call", x.state(Code.STATUS), Code.SYSTEM | Code.NO_IRQ | START);
            Code.exec(x, Code.comeBack());
            Checks.due("PC after the return", x.state(Code.PC), 12);
            Checks.due("STATUS after the return", x.state(Code.STATUS), mode | START);
        }
    }

    /** At the last address PC + 1 is 0; a section there lies on the places 256 .. 511. */
    private static void returnsStayWithinAddresses() {
        int[] codes = {Code.op(16, 0, 0, 0, -5), Code.call(), Code.op(31, 0, 0, 0, 0)};
        int[] pcs = {4090, 2, 1};
        for (int i = 0; i < codes.length; i++) {
            PageGuards x = Tables.on(1, 0);
            x.poke(Tables.FIRST_TABLE + 15, Tables.section(256, 3, 0));
            x.poke(511, codes[i]);
            x.set(7, 9);
            Tables.fetch(x, 4095);
            Checks.due("R7 behind 4095", x.state(7), 0);
            Checks.due("PC behind 4095", x.state(Code.PC), pcs[i]);
        }
        PageGuards x = Tables.on(1, 0);
        x.poke(Tables.FIRST_TABLE + 15, Tables.section(256, 3, 0));
        x.poke(511, Code.let(0, 1));
        Tables.fetch(x, 4095);
        Checks.due("PC grows to 0", x.state(Code.PC), 0);
    }

    private static void dataFaultsAreTold() {
        int[] codes = {Code.load(2, 1, 12), Code.store(2, 1, 12)};
        for (int code : codes) {
            PageGuards x = inMode(Code.FIQ);
            x.set(1, 500);
            x.set(2, 22);
            Code.exec(x, code);
            Tables.dueDataFault("512", x, 7, 512);
            Checks.due("KEPT", x.state(Code.KEPT), Code.FIQ | START);
            Checks.due("STATUS", x.state(Code.STATUS), Code.ABORT | Code.NO_IRQ | START);
            Checks.due("R7", x.state(7), 11);
            Checks.due("R2", x.state(2), 22);
            Checks.due("STATE of instructions", x.state(28), 0);
        }
        PageGuards x = Code.begun();
        Code.exec(x, Code.load(2, 1, -1));
        Tables.dueDataFault("-1", x, 7, 4095);
    }

    private static void loadManyStopsAtTheFirstFault() {
        PageGuards x = Code.begun();
        x.poke(510, 1510);
        x.poke(511, 1511);
        for (int r = 0; r < 8; r++) {
            x.set(r, 100 + r);
        }
        x.set(3, 510);
        Code.exec(x, Code.loadMany(3, 0b01110011));
        Tables.dueDataFault("behind 511", x, 7, 512);
        Checks.due("R7", x.state(7), 10);
        for (int r = 0; r < 6; r++) {
            Checks.due("R" + r, x.state(r), r == 3 ? 510 : 100 + r);
        }
        Code.status(x, Code.SYSTEM);
        Checks.due("R6", x.state(6), 106);
        Checks.due("R7 of SYSTEM", x.state(7), 107);
    }

    private static void storeManyKeepsWhatWasStored() {
        PageGuards x = Code.begun();
        for (int r = 0; r < 8; r++) {
            x.set(r, 100 + r);
        }
        x.set(3, 514);
        Code.exec(x, Code.storeMany(3, 0b01110011));
        Tables.dueDataFault("behind 511", x, 7, 512);
        Checks.due("R3", x.state(3), 514);
        Checks.due("word(508)", x.word(508), 0);
        Checks.due("word(509)", x.word(509), 100);
        Checks.due("word(510)", x.word(510), 101);
        Checks.due("word(511)", x.word(511), 104);
        x.begin(20);
        x.set(3, 1);
        Code.exec(x, Code.storeMany(3, 0b00000110));
        Tables.dueDataFault("below 0", x, 7, 4095);
        Checks.due("R3 as it was", x.state(3), 1);
        Checks.due("word(0)", x.word(0), 0);
    }

    private static void fetchFaultsAreTold() {
        PageGuards x = inMode(Code.IRQ);
        Tables.fetch(x, 512);
        Tables.dueFetchFault("512", x, 7, 512);
        Checks.due("KEPT", x.state(Code.KEPT), Code.IRQ | START);
        Checks.due("STATUS", x.state(Code.STATUS), Code.ABORT | Code.NO_IRQ | START);
        Checks.due("STATE of data", x.state(26), 0);
        x.begin(4095);
        Checks.due("run(1)", x.run(1), 1);
        Tables.dueFetchFault("4095", x, 7, 4095);
    }

    private static void vectorsAreObeyed() {
        PageGuards x = Code.begun();
        Code.control(x, Code.VECTORS, 200);
        Code.exec(x, Code.op(31, 0, 0, 0, 0));
        Checks.due("vector 1", x.state(Code.PC), 201);
        Code.exec(x, Code.call());
        Checks.due("vector 2", x.state(Code.PC), 202);
        Code.exec(x, Code.load(0, 1, 600));
        Checks.due("vector 4", x.state(Code.PC), 204);
        Tables.fetch(x, 600);
        Checks.due("vector 3", x.state(Code.PC), 203);
        Code.status(x, Code.SYSTEM);
        x.line(2, true);
        x.run(1);
        Checks.due("vector 5", x.state(Code.PC), 205);
        x.line(3, true);
        x.run(1);
        Checks.due("vector 6", x.state(Code.PC), 206);
        Code.control(x, Code.VECTORS, 4094);
        Code.exec(x, Code.call());
        Checks.due("vector 2 behind 4095", x.state(Code.PC), 0);
    }

    private static void modesKeepTheirOwn() {
        PageGuards x = Code.begun();
        x.set(6, 16);
        Code.status(x, Code.USER);
        x.set(6, 6);
        x.set(7, 7);
        Code.exec(x, Code.call());
        Checks.due("R6 of SYSTEM", x.state(6), 16);
        Checks.due("R7 of SYSTEM", x.state(7), 12);
        Code.exec(x, Code.load(0, 1, 600));
        Checks.due("R6 of ABORT", x.state(6), 0);
        Checks.due("R7 of ABORT", x.state(7), 2);
        Code.exec(x, Code.comeBack());
        Checks.due("PC", x.state(Code.PC), 2);
        Checks.due("KEPT of SYSTEM", x.state(Code.KEPT), Code.USER);
        Code.exec(x, Code.comeBack());
        Checks.due("R6 of USER", x.state(6), 6);
        Checks.due("R7 of USER", x.state(7), 7);
        Checks.due("STATUS", x.state(Code.STATUS), Code.USER);
        Checks.due("PC in USER", x.state(Code.PC), 12);
    }
}
