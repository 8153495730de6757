/** Promise 7: how an address is translated by the tables, and the STATES of a walk. */
public final class TranslationTest {
    private static final int OPEN = 0b01;

    public static void main(String[] args) {
        whenNotOnTheAddressIsThePlace();
        sectionsCover256();
        largePagesCover64();
        smallPagesCover16();
        placesAreMultiples();
        domainIsOfTheFirstWord();
        missingWordsAreFaults();
        tablesMayEndBehindMemory();
        splitChoosesTheTable();
        walksAreCounted();
        storesMayChangeTheTables();
        Checks.finish();
    }

    private static void whenNotOnTheAddressIsThePlace() {
        PageGuards x = Code.begun();
        Tables.write(x, 511, 5);
        Checks.due("word(511)", x.word(511), 5);
        Tables.read(x, 512);
        Tables.dueDataFault("512", x, 7, 512);
        Tables.read(x, 4095);
        Tables.dueDataFault("4095", x, 7, 4095);
        Checks.due("walks", x.state(Code.WALKS), 0);
        Checks.due("entries", x.state(Code.ENTRIES), 0);
    }

    private static void sectionsCover256() {
        PageGuards x = Tables.on(1, OPEN);
        x.poke(Tables.FIRST_TABLE + 9, Tables.section(256, 0, 3));
        x.poke(256 + 77, 1077);
        Tables.read(x, 9 * 256 + 77);
        Checks.due("R0", x.state(0), 1077);
        Tables.dueEntry("code", x, 0, 0, 256, 0, -1, 3, 0, 0);
        Tables.dueEntry("section", x, 1, 9 * 256, 256, 256, -1, 0, 3, 0);
        Tables.write(x, 9 * 256 + 255, -3);
        Checks.due("word(511)", x.word(511), -3);
        Tables.write(x, 9 * 256 + 100, -4);
        Checks.due("word(356)", x.word(356), -4);
        Checks.due("walks", x.state(Code.WALKS), 2);
        Tables.read(x, 10 * 256);
        Tables.dueDataFault("behind it", x, 1, 10 * 256);
        Tables.read(x, 9 * 256 - 1);
        Tables.dueDataFault("ahead of it", x, 1, 9 * 256 - 1);
    }

    private static void largePagesCover64() {
        PageGuards x = Tables.on(1, OPEN << 2);
        x.poke(Tables.FIRST_TABLE + 15, Tables.second(280, 1));
        x.poke(280 + 7, Tables.large(448, 1) | Tables.OWN | Tables.NO_FETCH);
        x.poke(448 + 3 * 16 + 5, 555);
        Tables.read(x, 15 * 256 + 7 * 16 + 5);
        Checks.due("R0", x.state(0), 555);
        Tables.dueEntry("large", x, 1, 15 * 256 + 64, 64, 448, 0, 1, 1, 1);
        Tables.write(x, 15 * 256 + 64, 640);
        Tables.write(x, 15 * 256 + 127, 1270);
        Checks.due("word(448)", x.word(448), 640);
        Checks.due("word(511)", x.word(511), 1270);
        Checks.due("walks", x.state(Code.WALKS), 2);
        Tables.read(x, 15 * 256 + 128);
        Tables.dueDataFault("behind it", x, 2, 15 * 256 + 128);
        Tables.read(x, 15 * 256 + 63);
        Tables.dueDataFault("ahead of it", x, 2, 15 * 256 + 63);
    }

    private static void smallPagesCover16() {
        for (int bits = 2; bits < 4; bits++) {
            PageGuards x = Tables.on(1, OPEN << 4);
            x.poke(Tables.FIRST_TABLE + 1, Tables.second(300, 2));
            x.poke(300 + 12, Tables.small(336, 2) | bits);
            x.poke(336 + 9, 999);
            Tables.read(x, 256 + 12 * 16 + 9);
            Checks.due("R0", x.state(0), 999);
            Tables.dueEntry("small", x, 1, 256 + 12 * 16, 16, 336, -1, 2, 2, 0);
            Tables.write(x, 256 + 12 * 16 + 15, 15);
            Checks.due("word(351)", x.word(351), 15);
            Checks.due("walks", x.state(Code.WALKS), 2);
            Tables.read(x, 256 + 13 * 16);
            Tables.dueDataFault("behind it", x, 2, 256 + 13 * 16);
            Tables.read(x, 256 + 12 * 16 - 1);
            Tables.dueDataFault("ahead of it", x, 2, 256 + 12 * 16 - 1);
        }
    }

    private static void placesAreMultiples() {
        PageGuards x = Tables.on(1, OPEN);
        x.poke(Tables.FIRST_TABLE + 2, Tables.section(511, 0, 3));
        x.poke(Tables.FIRST_TABLE + 3, Tables.second(290, 0));
        x.poke(Tables.FIRST_TABLE + 4, Tables.section(255, 0, 3) | 0xFFFE0000);
        x.poke(290, Tables.large(511, 3));
        x.poke(294, Tables.small(511, 3));
        x.poke(295, Tables.small(15, 3) | 0xFFFE0000);
        Tables.read(x, 2 * 256);
        Tables.read(x, 3 * 256);
        Tables.read(x, 3 * 256 + 64);
        Tables.read(x, 3 * 256 + 80);
        Tables.read(x, 4 * 256);
        Checks.due("section's place", x.entry(1, 2), 256);
        Checks.due("large page's place", x.entry(2, 2), 448);
        Checks.due("small page's place", x.entry(3, 2), 496);
        Checks.due("small page's lowest place", x.entry(4, 2), 0);
        Checks.due("section's lowest place", x.entry(5, 2), 0);
        Tables.write(x, 3 * 256 + 64 + 15, 42);
        Checks.due("word(511)", x.word(511), 42);
    }

    private static void domainIsOfTheFirstWord() {
        PageGuards x = Tables.on(1, OPEN << 4);
        x.poke(Tables.FIRST_TABLE + 2, Tables.second(290, 2));
        // The bits of a domain in the LAST word, which a page doesn't have its domain from.
        x.poke(290, Tables.small(400, 3) | 1 << 2);
        Tables.read(x, 2 * 256);
        Checks.due("domain", x.entry(1, 4), 2);
        Checks.due("PC goes on", x.state(Code.PC), 14);
    }

    private static void missingWordsAreFaults() {
        PageGuards x = Tables.on(1, OPEN);
        x.poke(Tables.FIRST_TABLE + 2, 0xFFFFFFFC);
        x.poke(Tables.FIRST_TABLE + 3, 0xFFFFFFFF);
        x.poke(Tables.FIRST_TABLE + 4, Tables.second(290, 0));
        x.poke(290 + 1, 0xFFFFFFFC);
        Tables.read(x, 2 * 256 + 1);
        Tables.dueDataFault("first word of 0", x, 1, 2 * 256 + 1);
        Tables.write(x, 3 * 256 + 2, 5);
        Tables.dueDataFault("first word of 3", x, 1, 3 * 256 + 2);
        Tables.read(x, 4 * 256 + 16);
        Tables.dueDataFault("last word of 0", x, 2, 4 * 256 + 16);
        Tables.fetch(x, 3 * 256);
        Tables.dueFetchFault("first word of 3", x, 1, 3 * 256);
        Tables.fetch(x, 4 * 256 + 31);
        Tables.dueFetchFault("last word of 0", x, 2, 4 * 256 + 31);
        Checks.due("entries", x.state(Code.ENTRIES), 1);
    }

    private static void tablesMayEndBehindMemory() {
        PageGuards x = Tables.on(1, OPEN);
        x.poke(Tables.FIRST_TABLE + 2, Tables.second(500, 0));
        x.poke(511, Tables.small(304, 3));
        Tables.read(x, 2 * 256 + 11 * 16);
        Checks.due("the last place of memory", x.entry(1, 2), 304);
        Tables.read(x, 2 * 256 + 12 * 16);
        Tables.dueDataFault("last word at 512", x, 7, 2 * 256 + 12 * 16);
        Code.control(x, Code.TABLE, 500);
        x.poke(511, Tables.section(256, 0, 3));
        Tables.read(x, 11 * 256);
        Checks.due("first word at 511", x.entry(2, 0), 11 * 256);
        Tables.read(x, 12 * 256 + 9);
        Tables.dueDataFault("first word at 512", x, 7, 12 * 256 + 9);
        Tables.fetch(x, 4095);
        Tables.dueFetchFault("first word at 515", x, 7, 4095);
        Checks.due("walks", x.state(Code.WALKS), 6);
        Checks.due("entries", x.state(Code.ENTRIES), 3);
    }

    private static void splitChoosesTheTable() {
        for (int split = 0; split < 4; split++) {
            for (int page = 1; page < 16; page++) {
                PageGuards x = Tables.on(0, OPEN);
                Code.control(x, Code.SPLIT, split);
                Code.control(x, Code.HIGH_TABLE, 280);
                x.poke(Tables.FIRST_TABLE + page, Tables.second(400, 0));
                x.poke(280 + page, Tables.second(420, 0));
                x.poke(400, Tables.small(320, 3));
                x.poke(420, Tables.small(336, 3));
                x.poke(320, 1);
                x.poke(336, 2);
                Tables.read(x, page * 256);
                boolean high = page >= 1 << 4 - split;
                Checks.due("SPLIT " + split + ", page " + page, x.state(0), high ? 2 : 1);
            }
        }
    }

    private static void walksAreCounted() {
        PageGuards x = Tables.on(1, OPEN);
        Checks.due("walks when just ON", x.state(Code.WALKS), 0);
        Tables.read(x, 2 * 256);
        Checks.due("walks of a fetch and a fault", x.state(Code.WALKS), 2);
        Tables.read(x, 2 * 256);
        Checks.due("a fault is walked again", x.state(Code.WALKS), 3);
        Tables.read(x, 0);
        Checks.due("what is buffered is not walked", x.state(Code.WALKS), 3);
        PageGuards y = Tables.on(0, OPEN);
        Tables.read(y, 0);
        Checks.due("all is walked without a buffer", y.state(Code.WALKS), 2);
        Code.exec(y, Code.let(0, 1));
        Checks.due("each fetch is walked without a buffer", y.state(Code.WALKS), 3);
        y.set(3, 10);
        Code.exec(y, Code.loadMany(3, 7));
        Checks.due("each address is walked without a buffer", y.state(Code.WALKS), 7);
        Checks.due("entries", y.state(Code.ENTRIES), 0);
        Checks.due("entry(0, 0)", y.entry(0, 0), -1);
    }

    /** The first word is stored over the table word by which the second one is walked. */
    private static void storesMayChangeTheTables() {
        PageGuards x = Tables.on(1, OPEN);
        x.poke(Tables.FIRST_TABLE + 2, Tables.second(398, 0));
        x.poke(398, Tables.small(384, 3));
        x.set(0, Tables.small(480, 3));
        x.set(1, 4711);
        x.set(2, 2 * 256 + 17);
        Code.exec(x, Code.storeMany(2, 0b11));
        Checks.due("word(399) is stored", x.word(399), Tables.small(480, 3));
        Checks.due("word(480) is stored by it", x.word(480), 4711);
        Checks.due("PC", x.state(Code.PC), 14);
    }
}
