/** The tables at the ends of memory, and each number in their words at its least and its most. */
public final class TableEdgesTest {
    private static final int OPEN = 0b01;
    private static final int SECOND = 300;
    // All bits of a word but the lowest two, which say what it is.
    private static final int REST = ~3;

    public static void main(String[] args) {
        notOnTheLastPlaceIs511();
        splitZeroNeverChoosesTheHighTable();
        splitDividesAtItsAddress();
        firstWordMayBeTheLastOfMemory();
        firstWordOfTheHighTableMayBeTheLastOfMemory();
        firstWordMayBeTheFirstOfMemory();
        lastWordMayBeTheLastOfMemory();
        lastWordMayBeTheFirstOfMemory();
        firstWordOfZeroAndThreeIsNone();
        lastWordOfZeroIsNone();
        lastWordOfThreeIsSmallToo();
        sectionHasNoSecondTable();
        secondTableIsNineBits();
        placeIsNineBits();
        placeIsAMultipleOfItsWords();
        lastPlaceCoveredIs511();
        everyWordOfAPageHasItsPlace();
        everyDomainIsTwoBits();
        rightsAndTheirNeighboursAreApart();
        Checks.finish();
    }

    /** Tables with a second one for the addresses 256 .. 511, open to all by RIGHTS 3. */
    private static PageGuards paged() {
        PageGuards x = Tables.on(1, OPEN);
        x.poke(Tables.FIRST_TABLE + 1, Tables.second(SECOND, 0));
        return x;
    }

    /** "when not ON, its place is the address (from 512 on: STATE 7)". */
    private static void notOnTheLastPlaceIs511() {
        for (int address : new int[] {0, 511, 512, 4095}) {
            PageGuards x = Code.begun();
            boolean there = address < 512;
            x.poke(address, Code.let(2, 55));
            Tables.read(x, address);
            Checks.due("PC after reading " + address, x.state(Code.PC), there ? 11 : 4);
            Checks.due("R0 from " + address, x.state(0), there ? Code.let(2, 55) : 0);
            x.begin(20);
            Tables.write(x, address, Code.let(2, 66));
            Checks.due("PC after writing " + address, x.state(Code.PC), there ? 21 : 4);
            Checks.due("word(" + address + ")", x.word(address), there ? Code.let(2, 66) : -1);
            x.begin(address);
            x.run(1);
            Checks.due("PC after fetching " + address, x.state(Code.PC), there ? address + 1 : 3);
            Checks.due("R2 by the word at " + address, x.state(2), there ? 66 : 0);
            Checks.due("STATE of data", x.state(26), there ? 0 : 7);
            Checks.due("ADDRESS of data", x.state(27), there ? 0 : address);
            Checks.due("STATE of instructions", x.state(28), there ? 0 : 7);
            Checks.due("ADDRESS of instructions", x.state(29), there ? 0 : address);
        }
    }

    /** A HIGH TABLE whose words are all missing, so that its use is told by STATE 1. */
    private static PageGuards split(int split) {
        PageGuards x = Tables.on(0, OPEN);
        for (int page = 1; page < 16; page++) {
            x.poke(Tables.FIRST_TABLE + page, Tables.section(256, 0, 3));
        }
        Code.control(x, Code.HIGH_TABLE, 400);
        Code.control(x, Code.SPLIT, split);
        return x;
    }

    private static void dueTable(PageGuards x, int address, boolean high) {
        Tables.read(x, address);
        Checks.due("STATE at " + address + " with SPLIT " + x.state(23), x.state(26), high ? 1 : 0);
    }

    /** "the HIGH TABLE if SPLIT is above 0". */
    private static void splitZeroNeverChoosesTheHighTable() {
        for (int address : new int[] {0, 512, 1024, 2048, 4095}) {
            dueTable(split(0), address, false);
            dueTable(split(4), address, false);
        }
    }

    /** "and any of the highest SPLIT bits of the address is not 0, otherwise the TABLE". */
    private static void splitDividesAtItsAddress() {
        for (int split = 1; split <= 3; split++) {
            int from = 4096 >> split;
            dueTable(split(split), 0, false);
            dueTable(split(split), from - 1, false);
            dueTable(split(split), from, true);
            dueTable(split(split), 4095, true);
            for (int bit = 11; bit >= 8; bit--) {
                dueTable(split(split), 1 << bit, bit > 11 - split);
            }
        }
    }

    /** "the FIRST word is at the table's place + the address' bits 8 .. 11 (from 512 on: STATE 7)". */
    private static void firstWordMayBeTheLastOfMemory() {
        for (int page = 1; page < 16; page++) {
            PageGuards x = Tables.on(1, OPEN);
            x.poke(511, Tables.section(256, 0, 3));
            Code.control(x, Code.TABLE, 511 - page);
            Tables.read(x, page * 256);
            Checks.due("PC by the word at 511 for page " + page, x.state(Code.PC), 15);
            Checks.due("first address of page " + page, x.entry(1, 0), page * 256);
            Code.control(x, Code.TABLE, 512 - page);
            Code.exec(x, Code.forget(0, 0));
            x.poke(512 - page, Tables.CODE_SECTION);
            Tables.read(x, page * 256 + 255);
            Tables.dueDataFault("word at 512 for page " + page, x, 7, page * 256 + 255);
            Checks.due("what has a STATE is not kept", x.state(Code.ENTRIES), 1);
        }
    }

    private static void firstWordOfTheHighTableMayBeTheLastOfMemory() {
        for (int page = 8; page < 16; page++) {
            PageGuards x = Tables.on(1, OPEN);
            Code.control(x, Code.SPLIT, 1);
            x.poke(511, Tables.section(256, 0, 3));
            Code.control(x, Code.HIGH_TABLE, 511 - page);
            Tables.read(x, page * 256);
            Checks.due("PC by the word at 511 for page " + page, x.state(Code.PC), 16);
            Code.exec(x, Code.forget(0, 0));
            Code.control(x, Code.HIGH_TABLE, 512 - page);
            Tables.read(x, page * 256);
            Tables.dueDataFault("word at 512 for page " + page, x, 7, page * 256);
            Code.control(x, Code.HIGH_TABLE, 511);
            Tables.fetch(x, page * 256 + 9);
            Tables.dueFetchFault("word behind 512 for page " + page, x, 7, page * 256 + 9);
        }
    }

    private static void firstWordMayBeTheFirstOfMemory() {
        PageGuards x = Tables.on(1, OPEN);
        x.poke(0, Tables.section(0, 3, 2));
        x.poke(15, Tables.section(256, 0, 3));
        Code.exec(x, Code.jump(100));
        Code.control(x, Code.TABLE, 0);
        Code.exec(x, Code.forget(0, 0));
        Tables.read(x, 4095);
        Checks.due("RIGHTS by the word at 0", x.entry(0, 5), 2);
        Checks.due("first address by the word at 15", x.entry(1, 0), 15 * 256);
    }

    /** "the LAST word is at that + the address' bits 4 .. 7 (from 512 on: STATE 7)". */
    private static void lastWordMayBeTheLastOfMemory() {
        for (int k = 0; k < 16; k++) {
            PageGuards x = Tables.on(1, OPEN);
            x.poke(511, Tables.small(320, 3));
            x.poke(Tables.FIRST_TABLE + 1, Tables.second(511 - k, 0));
            Tables.read(x, 256 + 16 * k);
            Checks.due("PC by the word at 511 for " + k, x.state(Code.PC), 14);
            Checks.due("first address of " + k, x.entry(1, 0), 256 + 16 * k);
            if (k > 0) {
                x.poke(Tables.FIRST_TABLE + 2, Tables.second(512 - k, 0));
                Tables.read(x, 512 + 16 * k + 15);
                Tables.dueDataFault("word at 512 for " + k, x, 7, 512 + 16 * k + 15);
                x.poke(Tables.FIRST_TABLE + 2, Tables.second(511, 0));
                Tables.fetch(x, 512 + 16 * k);
                Tables.dueFetchFault("word from 512 on for " + k, x, 7, 512 + 16 * k);
            }
        }
    }

    private static void lastWordMayBeTheFirstOfMemory() {
        PageGuards x = Tables.on(1, OPEN);
        x.poke(0, Tables.small(320, 3));
        x.poke(Tables.FIRST_TABLE + 1, Tables.second(0, 0));
        Tables.read(x, 256);
        Tables.dueEntry("by the word at 0", x, 1, 256, 16, 320, -1, 0, 3, 0);
    }

    /** "Its bits 0, 1: 0 and 3 STATE 1", whatever the other bits are. */
    private static void firstWordOfZeroAndThreeIsNone() {
        for (int word : new int[] {0, 3, REST, -1}) {
            PageGuards x = Tables.on(1, 0xFF);
            x.poke(Tables.FIRST_TABLE + 1, word);
            Tables.read(x, 256);
            Tables.dueDataFault("read by " + word, x, 1, 256);
            Tables.write(x, 511, 5);
            Tables.dueDataFault("write by " + word, x, 1, 511);
            Tables.fetch(x, 300);
            Tables.dueFetchFault("fetch by " + word, x, 1, 300);
            Checks.due("entries", x.state(Code.ENTRIES), 1);
            Checks.due("walks", x.state(Code.WALKS), 4);
        }
    }

    /** "its bits 0, 1: 0 STATE 2", whatever the other bits are. */
    private static void lastWordOfZeroIsNone() {
        for (int word : new int[] {0, REST}) {
            PageGuards x = Tables.on(1, 0xFF);
            x.poke(Tables.FIRST_TABLE + 1, Tables.second(SECOND, 0));
            x.poke(SECOND + 15, word);
            Tables.read(x, 496);
            Tables.dueDataFault("read by " + word, x, 2, 496);
            Tables.write(x, 511, 5);
            Tables.dueDataFault("write by " + word, x, 2, 511);
            Tables.fetch(x, 500);
            Tables.dueFetchFault("fetch by " + word, x, 2, 500);
            Checks.due("entries", x.state(Code.ENTRIES), 1);
            Checks.due("walks", x.state(Code.WALKS), 4);
        }
    }

    /** "1 a LARGE page of 64 words; 2 and 3 a SMALL one of 16." */
    private static void lastWordOfThreeIsSmallToo() {
        int[] words = {64, 16, 16};
        for (int kind = 1; kind <= 3; kind++) {
            PageGuards x = paged();
            x.poke(SECOND, 320 << 8 | 3 << 4 | kind);
            Tables.read(x, 256);
            Checks.due("words of kind " + kind, x.entry(1, 1), words[kind - 1]);
        }
    }

    /** "(Of a section the first word is the LAST one.)": all its bits are of the first word. */
    private static void sectionHasNoSecondTable() {
        PageGuards x = Tables.on(1, OPEN << 4);
        Code.control(x, Code.SPACE, 15);
        x.poke(Tables.FIRST_TABLE + 7, Tables.section(256, 2, 3) | Tables.OWN | Tables.NO_FETCH);
        Tables.read(x, 7 * 256 + 255);
        Tables.dueEntry("section", x, 1, 7 * 256, 256, 256, 15, 2, 3, 1);
        Checks.due("PC", x.state(Code.PC), 15);
    }

    /** "there is a second table at the place that its bits 8 .. 16 are": no more and no less. */
    private static void secondTableIsNineBits() {
        for (int bit = 0; bit < 9; bit++) {
            PageGuards x = Tables.on(1, OPEN);
            int place = 1 << bit;
            Code.exec(x, Code.jump(100));
            x.poke(place, Tables.small(320, 3));
            // The place 256 has the word of the code itself, as a LAST one a small page on 0.
            x.poke(Tables.FIRST_TABLE, Tables.CODE_SECTION);
            x.poke(Tables.FIRST_TABLE + 1, Tables.second(place, 0) | 0xFFFE00F0);
            Tables.read(x, 256);
            int want = place == Tables.FIRST_TABLE ? 0 : 320;
            Checks.due("place by bit " + (8 + bit), x.entry(1, 2), want);
            Checks.due("domain by bit " + (8 + bit), x.entry(1, 4), 0);
        }
    }

    /** "bits 8 .. 16 the first place": no more and no less. */
    private static void placeIsNineBits() {
        for (int bit = 4; bit < 9; bit++) {
            PageGuards x = paged();
            x.poke(SECOND, Tables.small(1 << bit, 3) | 0xFFFE000C);
            Tables.read(x, 256);
            Tables.dueEntry("place by bit " + (8 + bit), x, 1, 256, 16, 1 << bit, -1, 0, 3, 0);
        }
        PageGuards x = paged();
        x.poke(SECOND, Tables.small(0, 3) | 0xFFFE000C);
        Tables.read(x, 256);
        Tables.dueEntry("place 0", x, 1, 256, 16, 0, -1, 0, 3, 0);
    }

    /** "the lowest bits of it being 0 instead, as a multiple of the words it has". */
    private static void placeIsAMultipleOfItsWords() {
        int[] places = {0, 15, 16, 31, 32, 63, 64, 127, 128, 255, 256, 447, 448, 495, 496, 511};
        for (int place : places) {
            PageGuards x = paged();
            x.poke(Tables.FIRST_TABLE + 2, Tables.section(place, 0, 3));
            x.poke(SECOND, Tables.small(place, 3));
            x.poke(SECOND + 4, Tables.large(place, 3));
            Tables.read(x, 256);
            Tables.read(x, 256 + 64);
            Tables.read(x, 512);
            Checks.due("small page on " + place, x.entry(1, 2), place / 16 * 16);
            Checks.due("large page on " + place, x.entry(2, 2), place / 64 * 64);
            Checks.due("section on " + place, x.entry(3, 2), place / 256 * 256);
        }
    }

    /** "The place is the first one and as much as the address lies behind the first one covered". */
    private static void lastPlaceCoveredIs511() {
        int[] lasts = {256 + 15, 256 + 127, 1023};
        for (int i = 0; i < lasts.length; i++) {
            PageGuards x = paged();
            x.poke(SECOND, Tables.small(511, 3));
            x.poke(SECOND + 7, Tables.large(511, 3));
            x.poke(Tables.FIRST_TABLE + 3, Tables.section(511, 0, 3));
            x.poke(511, Code.let(2, 9));
            Tables.read(x, lasts[i]);
            Checks.due("R0 from " + lasts[i], x.state(0), Code.let(2, 9));
            Tables.fetch(x, lasts[i]);
            Checks.due("R2 by the word at " + lasts[i], x.state(2), 9);
            x.set(1, 10);
            x.set(3, lasts[i]);
            x.begin(20);
            Code.control(x, Code.ON, 1);
            Code.exec(x, Code.store(1, 3, 0));
            Checks.due("word(511) by " + lasts[i], x.word(511), 10);
            Checks.due("no STATE of data", x.state(26), 0);
            Checks.due("no STATE of instructions", x.state(28), 0);
        }
    }

    private static void everyWordOfAPageHasItsPlace() {
        int[] firsts = {256, 256 + 64, 512};
        int[] sizes = {16, 64, 256};
        int[] places = {496, 384, 0};
        int[] strides = {1, 3, 5};
        for (int i = 0; i < firsts.length; i++) {
            PageGuards x = paged();
            x.poke(SECOND, Tables.small(496, 3));
            x.poke(SECOND + 4, Tables.large(384, 3));
            x.poke(Tables.FIRST_TABLE + 2, Tables.section(0, 0, 3));
            for (int behind = 0; behind < sizes[i]; behind += strides[i]) {
                x.set(1, firsts[i] + behind);
                x.set(2, 70000 + behind);
                Code.exec(x, Code.store(2, 1, 0), Code.jump(-1));
                int place = places[i] + behind;
                Checks.due("word(" + place + ")", x.word(place), 70000 + behind);
            }
        }
    }

    /** "DOMAINS (8: two for each domain 0 .. 3, the lowest for 0)". */
    private static void everyDomainIsTwoBits() {
        for (int domain = 0; domain < 4; domain++) {
            for (int bits = 0; bits < 4; bits++) {
                for (int others : new int[] {0, 0xFF}) {
                    PageGuards x = Code.begun();
                    x.poke(Tables.FIRST_TABLE, Tables.section(0, domain, 0));
                    Code.control(x, Code.TABLE, Tables.FIRST_TABLE);
                    Code.control(x, Code.DOMAINS, others & ~(3 << 2 * domain) | bits << 2 * domain);
                    Code.control(x, Code.ON, 1);
                    Code.exec(x, Code.let(0, 8));
                    int want = bits == 3 ? 0 : bits == 1 ? 5 : 3;
                    Checks.due("STATE of domain " + domain + " with " + bits, x.state(28), want);
                    Checks.due("R0", x.state(0), bits == 3 ? 8 : 0);
                }
            }
        }
    }

    /** "bits 4, 5 the RIGHTS, 6 NO FETCH, 7 OWN": each of them is read from its own bits. */
    private static void rightsAndTheirNeighboursAreApart() {
        for (int bits = 0; bits < 16; bits++) {
            PageGuards x = paged();
            Code.control(x, Code.SPACE, 7);
            x.poke(SECOND, bits << 4 | 2);
            x.poke(SECOND + 1, ~(bits << 4));
            Tables.read(x, 256);
            Tables.read(x, 256 + 16);
            Tables.dueEntry("bits " + bits, x, 1, 256, 16, 0, bits > 7 ? 7 : -1, 0, bits & 3, bits >> 2 & 1);
            int rest = 15 - bits;
            Tables.dueEntry("bits " + rest, x, 2, 272, 16, 496, rest > 7 ? 7 : -1, 0, rest & 3, rest >> 2 & 1);
        }
    }
}
