/**
 * Addresses at their ends. "ADDRESSES are 0 .. 4095: of what is taken as one the lowest 12 bits",
 * and "sums that are addresses keep the lowest 12 bits, others wrap".
 */
public final class AddressEdgesTest {
    private static final int MIN = Integer.MIN_VALUE;
    private static final int MAX = Integer.MAX_VALUE;
    // The lowest 12 bits of each are 0.
    private static final int[] HIGHER_BITS = {0, 4096, -4096, 8192, MAX - 4095, MIN};

    public static void main(String[] args) {
        beginTakesTheLowestBits();
        jumpToRegisterTakesTheLowestBits();
        returnTakesTheLowestBits();
        loadTakesTheLowestBits();
        storeTakesTheLowestBits();
        loadManyTakesTheLowestBits();
        storeManyTakesTheLowestBits();
        forgetTakesTheLowestBits();
        pcGrowsFromTheLastToTheFirst();
        pcJumpsRoundBothEnds();
        linkIsAnAddress();
        sumsOfLoadsGoRound();
        sumsOfStoresGoRound();
        loadManyGoesRound();
        loadManyEndsAtTheLast();
        storeManyGoesRound();
        storeManyGoesDownFromTheFirst();
        faultBehindTheLastIsToldAtTheFirst();
        vectorsGoRound();
        returnsOfExceptionsAreAddresses();
        otherSumsWrap();
        Checks.finish();
    }

    private static void beginTakesTheLowestBits() {
        for (int higher : HIGHER_BITS) {
            for (int address : new int[] {0, 1, 511, 512, 4094, 4095}) {
                PageGuards x = new PageGuards(1);
                x.begin(higher + address);
                Checks.due("PC after begin(" + (higher + address) + ")", x.state(Code.PC), address);
            }
        }
    }

    /** "17 PC = a." */
    private static void jumpToRegisterTakesTheLowestBits() {
        for (int higher : HIGHER_BITS) {
            for (int address : new int[] {0, 4095}) {
                PageGuards x = Code.begun();
                x.set(1, higher + address);
                Code.exec(x, Code.jumpTo(1));
                Checks.due("PC by 17 to " + (higher + address), x.state(Code.PC), address);
                Checks.due("R1 stays", x.state(1), higher + address);
            }
        }
    }

    /** "21 PC = R7": R7 itself has all its bits. */
    private static void returnTakesTheLowestBits() {
        for (int higher : HIGHER_BITS) {
            for (int address : new int[] {0, 4095}) {
                PageGuards x = Code.begun();
                x.set(4, Code.SYSTEM);
                x.set(7, higher + address);
                Code.exec(x, Code.writeKept(4), Code.comeBack());
                Checks.due("PC by 21 to " + (higher + address), x.state(Code.PC), address);
                Checks.due("R7 stays", x.state(7), higher + address);
            }
        }
    }

    private static void loadTakesTheLowestBits() {
        for (int higher : HIGHER_BITS) {
            PageGuards x = Code.begun();
            x.poke(0, 1000);
            x.poke(511, 1511);
            x.set(1, higher);
            Code.exec(x, Code.load(0, 1, 0), Code.load(2, 1, 511));
            Checks.due("R0 from " + higher, x.state(0), 1000);
            Checks.due("R2 from " + higher + " + 511", x.state(2), 1511);
            Code.exec(x, Code.load(0, 1, 512));
            Tables.dueDataFault(higher + " + 512", x, 7, 512);
        }
    }

    private static void storeTakesTheLowestBits() {
        for (int higher : HIGHER_BITS) {
            PageGuards x = Code.begun();
            x.set(0, 77);
            x.set(1, higher);
            Code.exec(x, Code.store(0, 1, 0), Code.store(0, 1, 511));
            Checks.due("word(0) by " + higher, x.word(0), 77);
            Checks.due("word(511) by " + higher + " + 511", x.word(511), 77);
            Code.exec(x, Code.store(0, 1, 512));
            Tables.dueDataFault(higher + " + 512", x, 7, 512);
        }
    }

    private static void loadManyTakesTheLowestBits() {
        for (int higher : HIGHER_BITS) {
            PageGuards x = Code.begun();
            x.poke(300, 31);
            x.poke(301, 32);
            x.set(3, higher + 300);
            Code.exec(x, Code.loadMany(3, 0b110));
            Checks.due("R1", x.state(1), 31);
            Checks.due("R2", x.state(2), 32);
            Checks.due("R3 of " + (higher + 300), x.state(3), 302);
        }
    }

    private static void storeManyTakesTheLowestBits() {
        for (int higher : HIGHER_BITS) {
            PageGuards x = Code.begun();
            x.set(1, 41);
            x.set(2, 42);
            x.set(3, higher + 300);
            Code.exec(x, Code.storeMany(3, 0b110));
            Checks.due("word(298)", x.word(298), 41);
            Checks.due("word(299)", x.word(299), 42);
            Checks.due("R3 of " + (higher + 300), x.state(3), 298);
        }
    }

    /** "24 FORGET .. 1 those that cover the address a". */
    private static void forgetTakesTheLowestBits() {
        for (int higher : HIGHER_BITS) {
            PageGuards x = Tables.round();
            Tables.read(x, 4095);
            Checks.due("entries", x.state(Code.ENTRIES), 2);
            x.set(4, higher + 4095);
            Code.exec(x, Code.forget(1, 4));
            Checks.due("entries without " + (higher + 4095), x.state(Code.ENTRIES), 1);
            Checks.due("the other stays", x.entry(0, 0), 0);
        }
    }

    /** "PC grows by 1, if nothing else is said", also when WHEN rules an operation out. */
    private static void pcGrowsFromTheLastToTheFirst() {
        int[] codes = {Code.let(0, 1), Code.when(1, Code.let(0, 1)), Code.when(1, Code.jump(7)),
            Code.compare(0, 0), Code.load(0, 3, 0), Code.store(0, 3, 0), Code.loadMany(3, 1),
            Code.storeMany(3, 1), Code.readStatus(0), Code.writeKept(0), Code.readControl(0, 1),
            Code.writeControl(5, 0), Code.forget(0, 0), Code.waits(), Code.lowerLine()};
        for (int code : codes) {
            PageGuards x = Tables.round();
            x.set(3, 100);
            Tables.doAtTheLast(x, code);
            Checks.due("PC behind " + (code >>> 27) + " at 4095", x.state(Code.PC), 0);
            Checks.due("mode", x.state(Code.STATUS) & 7, Code.SYSTEM);
        }
    }

    /** "15 PC = PC + n." */
    private static void pcJumpsRoundBothEnds() {
        int[] far = {1, 2, 0, -4095, 4096, -4096, 32767, -32768};
        int[] pcs = {0, 1, 4095, 0, 4095, 4095, 4094, 4095};
        for (int i = 0; i < far.length; i++) {
            PageGuards x = Tables.round();
            Tables.doAtTheLast(x, Code.jump(far[i]));
            Checks.due("PC = 4095 + " + far[i], x.state(Code.PC), pcs[i]);
        }
        far = new int[] {-1, -2, 0, 4095, 4096, -4096, 32767, -32768};
        pcs = new int[] {4095, 4094, 0, 4095, 0, 0, 4095, 0};
        for (int i = 0; i < far.length; i++) {
            PageGuards x = new PageGuards(1);
            x.begin(0);
            Code.exec(x, Code.jump(far[i]));
            Checks.due("PC = 0 + " + far[i], x.state(Code.PC), pcs[i]);
        }
    }

    /** "16 R7 = PC + 1, PC = PC + n." */
    private static void linkIsAnAddress() {
        PageGuards x = Tables.round();
        x.set(7, -1);
        Tables.doAtTheLast(x, Code.op(16, 0, 0, 0, 1));
        Checks.due("R7 by 16 at 4095", x.state(7), 0);
        Checks.due("PC by 16 at 4095", x.state(Code.PC), 0);
        Code.exec(x, Code.op(16, 0, 0, 0, -1));
        Checks.due("R7 by 16 at 0", x.state(7), 1);
        Checks.due("PC by 16 at 0", x.state(Code.PC), 4095);
    }

    /** "11 LOAD d from a + n." */
    private static void sumsOfLoadsGoRound() {
        int[] starts = {4095, 0, MAX, MIN, -1, 1};
        int[] numbers = {1, -1, 1, -1, 1, -2};
        int[] places = {0, 511, 0, 511, 0, 511};
        for (int i = 0; i < starts.length; i++) {
            PageGuards x = Tables.round();
            x.poke(0, 600);
            x.poke(511, 611);
            x.set(3, starts[i]);
            Code.exec(x, Code.load(0, 3, numbers[i]));
            Checks.due("R0 from " + starts[i] + " + " + numbers[i], x.state(0), places[i] == 0 ? 600 : 611);
            Checks.due("R3 stays", x.state(3), starts[i]);
        }
    }

    /** "12 STORE d to a + n." */
    private static void sumsOfStoresGoRound() {
        int[] starts = {4095, 0, MAX, MIN, -1, 1};
        int[] numbers = {1, -1, 1, -1, 1, -2};
        int[] places = {0, 511, 0, 511, 0, 511};
        for (int i = 0; i < starts.length; i++) {
            PageGuards x = Tables.round();
            x.set(0, 88);
            x.set(3, starts[i]);
            Code.exec(x, Code.store(0, 3, numbers[i]));
            Checks.due("word by " + starts[i] + " + " + numbers[i], x.word(places[i]), 88);
            Checks.due("the word at the other end", x.word(511 - places[i]), 0);
        }
    }

    /** "13 LOAD the registers .. from a, a + 1, .., and then a becomes the address behind the last". */
    private static void loadManyGoesRound() {
        PageGuards x = Tables.round();
        x.poke(510, 5);
        x.poke(511, 6);
        x.poke(0, 7);
        x.poke(1, 8);
        x.set(7, 4094);
        Code.exec(x, Code.loadMany(7, 0b1111));
        for (int r = 0; r < 4; r++) {
            Checks.due("R" + r, x.state(r), 5 + r);
        }
        Checks.due("R7 behind 1", x.state(7), 2);
    }

    private static void loadManyEndsAtTheLast() {
        PageGuards x = Tables.round();
        x.poke(511, 6);
        x.set(2, 4095);
        Code.exec(x, Code.loadMany(2, 1));
        Checks.due("R0", x.state(0), 6);
        Checks.due("R2 behind 4095", x.state(2), 0);
    }

    /** "14 STORE them, ascending, to a - m, a - m + 1, ..". */
    private static void storeManyGoesRound() {
        PageGuards x = Tables.round();
        x.set(0, 90);
        x.set(1, 91);
        x.set(2, 92);
        x.set(3, 1);
        Code.exec(x, Code.storeMany(3, 0b111));
        Checks.due("word(510)", x.word(510), 90);
        Checks.due("word(511)", x.word(511), 91);
        Checks.due("word(0)", x.word(0), 92);
        Checks.due("word(1)", x.word(1), 0);
        Checks.due("R3", x.state(3), 4094);
    }

    /** "and then a becomes the address a - m", below 0 from the highest on. */
    private static void storeManyGoesDownFromTheFirst() {
        PageGuards x = Tables.round();
        x.set(0, 93);
        x.set(3, 0);
        Code.exec(x, Code.storeMany(3, 0b1));
        Checks.due("word(511)", x.word(511), 93);
        Checks.due("R3", x.state(3), 4095);
        x.set(3, 4096);
        Code.exec(x, Code.storeMany(3, 0b1));
        Checks.due("R3 from 4096", x.state(3), 4095);
        x.set(3, MIN);
        Code.exec(x, Code.storeMany(3, 0b1));
        Checks.due("R3 from the least number", x.state(3), 4095);
    }

    /** "A STATE in 11 .. 14 (for 13 and 14 the first address that has one)", here the address 0. */
    private static void faultBehindTheLastIsToldAtTheFirst() {
        int[] codes = {Code.loadMany(3, 0b111), Code.storeMany(3, 0b111)};
        int[] starts = {4094, 4097};
        for (int i = 0; i < codes.length; i++) {
            PageGuards x = withoutTheFirstSection();
            x.set(3, starts[i]);
            x.poke(3, codes[i]);
            x.run(1);
            Checks.due("STATE by " + (codes[i] >>> 27), x.state(26), 1);
            Checks.due("ADDRESS by " + (codes[i] >>> 27), x.state(27), 0);
            Checks.due("PC by " + (codes[i] >>> 27), x.state(Code.PC), 260);
            Checks.due("a stays", x.state(3), starts[i]);
        }
    }

    /** Turned ON, it goes on at its vector 3, the address 259, which is the place 3. */
    private static PageGuards withoutTheFirstSection() {
        PageGuards x = Code.begun();
        x.poke(Tables.FIRST_TABLE + 1, Tables.CODE_SECTION);
        x.poke(Tables.FIRST_TABLE + 15, Tables.section(256, 3, 0));
        Code.control(x, Code.TABLE, Tables.FIRST_TABLE);
        Code.control(x, Code.DOMAINS, Tables.OPEN_CODE_DOMAIN);
        Code.control(x, Code.VECTORS, 256);
        Code.control(x, Code.ON, 1);
        x.run(1);
        Checks.due("PC in the second section", x.state(Code.PC), 259);
        return x;
    }

    /** "PC is VECTORS + e." */
    private static void vectorsGoRound() {
        int[] codes = {Code.op(31, 0, 0, 0, 0), Code.call(), Code.jump(600), Code.load(0, 1, 600)};
        for (int e = 1; e <= 6; e++) {
            for (int vectors : new int[] {4095, 4095 - e, 4096 - e}) {
                PageGuards x = Code.begun();
                Code.control(x, Code.VECTORS, vectors);
                Code.status(x, Code.SYSTEM);
                if (e > 4) {
                    x.line(e == 5 ? 0 : 3, true);
                } else {
                    Code.exec(x, codes[e - 1]);
                }
                if (e == 3 || e > 4) {
                    x.run(1);
                }
                Checks.due("PC by " + e + " with VECTORS " + vectors, x.state(Code.PC), vectors + e & 4095);
            }
        }
    }

    /** "its R7 PC + 1 for 1 and 2, PC for all others". */
    private static void returnsOfExceptionsAreAddresses() {
        for (int e : new int[] {1, 2, 4, 5, 6}) {
            PageGuards x = Tables.round();
            Code.status(x, Code.SYSTEM);
            Code.exec(x, Code.jump(4095 - x.state(Code.PC)));
            x.set(1, 600);
            x.poke(511, e == 1 ? Code.op(28, 0, 0, 0, 0) : e == 2 ? Code.call() : Code.load(0, 1, 0));
            if (e > 4) {
                x.line(e == 5 ? 1 : 3, true);
            }
            x.run(1);
            Checks.due("PC by " + e, x.state(Code.PC), e);
            Checks.due("R7 by " + e + " at 4095", x.state(7), e < 3 ? 0 : 4095);
        }
        PageGuards x = new PageGuards(1);
        x.begin(4095);
        x.run(1);
        Tables.dueFetchFault("4095 when not ON", x, 7, 4095);
    }

    /** Numbers that are no addresses keep all their bits. */
    private static void otherSumsWrap() {
        PageGuards x = Code.begun();
        x.set(1, 4095);
        x.set(2, 1);
        Code.exec(x, Code.op(1, 0, 1, 2, 0));
        Checks.due("4095 + 1", x.state(0), 4096);
        Code.exec(x, Code.op(9, 0, 1, 0, 1));
        Checks.due("4095 + 1 by 9", x.state(0), 4096);
        x.set(1, 0);
        Code.exec(x, Code.op(2, 0, 1, 2, 0));
        Checks.due("0 - 1", x.state(0), -1);
        x.set(1, MAX);
        Code.exec(x, Code.op(1, 0, 1, 2, 0));
        Checks.due("the most + 1", x.state(0), MIN);
        Code.exec(x, Code.op(9, 0, 1, 0, 1));
        Checks.due("the most + 1 by 9", x.state(0), MIN);
        x.set(1, MIN);
        Code.exec(x, Code.op(2, 0, 1, 2, 0));
        Checks.due("the least - 1", x.state(0), MAX);
        Code.exec(x, Code.op(9, 0, 1, 0, -1));
        Checks.due("the least - 1 by 9", x.state(0), MAX);
        x.set(2, -1);
        Code.exec(x, Code.op(8, 0, 1, 2, 0));
        Checks.due("the least * -1", x.state(0), MIN);
    }
}
