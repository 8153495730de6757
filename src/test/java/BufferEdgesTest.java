import java.util.Arrays;

/** The BUFFER when it is empty, full and not used, and entries at their ends. */
public final class BufferEdgesTest {
    private static final int OPEN = 0b01;
    private static final int SECOND = 300;
    private static final int MOST = 6;
    // A small page, a large one and a section, with a page of the same kind on either side.
    private static final int[] FIRSTS = {256 + 32, 512 + 64, 1024};
    private static final int[] SIZES = {16, 64, 256};

    public static void main(String[] args) {
        entriesCoverFromTheirFirstToTheirLast();
        forgetsFromTheFirstToTheLast();
        emptyUntilSomethingIsWalked();
        sixEntriesAreKept();
        seventhDrivesTheFirstOut();
        useDoesNotKeepTheFirst();
        whatHasAStateDrivesNothingOut();
        whatIsForbiddenDrivesTheFirstOut();
        forgottenOnesMakeRoom();
        lastThatCameIsFoundOfMany();
        allThatCoverAreForgotten();
        forgettingAllOfAFullOne();
        forgettingWhenItIsEmpty();
        spacesAtTheirEnds();
        forSpaceZeroIsNotForAll();
        forgetTakesFourBitsOfASpace();
        forgetLeavesWhatIsForAll();
        forgetsEveryEntryOfASpace();
        unusedOneNeverHasAny();
        beginEmptiesAFullOne();
        entryAnswersWithinItsNumbers();
        Checks.finish();
    }

    private static PageGuards paged(int buffered) {
        PageGuards x = Tables.on(buffered, OPEN);
        x.poke(Tables.FIRST_TABLE + 1, Tables.second(SECOND, 0));
        x.poke(Tables.FIRST_TABLE + 2, Tables.second(SECOND + 16, 0));
        for (int k = 0; k < 16; k++) {
            x.poke(SECOND + k, Tables.small(320 + 16 * (k & 7), 3));
            x.poke(SECOND + 16 + k, Tables.large(384, 3));
        }
        for (int page = 3; page < 6; page++) {
            x.poke(Tables.FIRST_TABLE + page, Tables.section(256, 0, 3));
        }
        return x;
    }

    private static int page(int k) {
        return 256 + 16 * k;
    }

    /** Has the code's entry and those of so many small pages, from page(0) on. */
    private static PageGuards withPages(int pages) {
        PageGuards x = paged(1);
        for (int k = 0; k < pages; k++) {
            Tables.read(x, page(k));
        }
        return x;
    }

    private static void dueAddresses(String what, PageGuards x, int... addresses) {
        Checks.due(what + ": entries", x.state(Code.ENTRIES), addresses.length);
        for (int k = 0; k < addresses.length; k++) {
            Checks.due(what + ": entry(" + k + ", 0)", x.entry(k, 0), addresses[k]);
        }
        Checks.due(what + ": behind them", x.entry(addresses.length, 0), -1);
    }

    private static void dueWalks(PageGuards x, int address, int walks) {
        int before = x.state(Code.WALKS);
        Tables.read(x, address);
        Checks.due("walks by " + address, x.state(Code.WALKS) - before, walks);
    }

    /** "one that covers the address": its first and its last, and not the ones beside them. */
    private static void entriesCoverFromTheirFirstToTheirLast() {
        for (int i = 0; i < FIRSTS.length; i++) {
            int first = FIRSTS[i];
            int last = first + SIZES[i] - 1;
            for (int walked : new int[] {first, first + 7, last}) {
                PageGuards x = paged(1);
                Tables.read(x, walked);
                Checks.due("first address", x.entry(1, 0), first);
                Checks.due("words", x.entry(1, 1), SIZES[i]);
                dueWalks(x, first, 0);
                dueWalks(x, last, 0);
                dueWalks(x, first - 1, 1);
                dueWalks(x, last + 1, 1);
            }
        }
    }

    /** "24 FORGET .. 1 those that cover the address a". */
    private static void forgetsFromTheFirstToTheLast() {
        for (int i = 0; i < FIRSTS.length; i++) {
            int first = FIRSTS[i];
            int[] beside = {first - 1, first + SIZES[i]};
            int[] within = {first, first + 7, first + SIZES[i] - 1};
            for (int address : within) {
                PageGuards x = paged(1);
                Tables.read(x, first + 3);
                for (int other : beside) {
                    x.set(4, other);
                    Code.exec(x, Code.forget(1, 4));
                    dueAddresses("without " + other, x, 0, first);
                }
                x.set(4, address);
                Code.exec(x, Code.forget(1, 4));
                dueAddresses("without " + address, x, 0);
            }
        }
    }

    /** "If there is none, it is WALKED". */
    private static void emptyUntilSomethingIsWalked() {
        PageGuards x = paged(1);
        dueAddresses("just turned ON", x);
        Checks.due("walks", x.state(Code.WALKS), 0);
        Code.exec(x, Code.let(0, 0));
        dueAddresses("by its first fetch", x, 0);
        Checks.due("walks", x.state(Code.WALKS), 1);
        Code.exec(x, Code.let(0, 0));
        dueAddresses("by its second fetch", x, 0);
        Checks.due("walks again", x.state(Code.WALKS), 1);
    }

    /** "it has at most 6 entries": 6 there may be. */
    private static void sixEntriesAreKept() {
        PageGuards x = withPages(MOST - 1);
        dueAddresses("six", x, 0, page(0), page(1), page(2), page(3), page(4));
        for (int k = 0; k < MOST - 1; k++) {
            dueWalks(x, page(k), 0);
        }
        Checks.due("walks", x.state(Code.WALKS), MOST);
    }

    /** "then the one that came first goes": it alone, and the rest keep their order. */
    private static void seventhDrivesTheFirstOut() {
        PageGuards x = paged(1);
        x.poke(SECOND + 5, Tables.small(496, 2) | Tables.OWN | Tables.NO_FETCH);
        for (int k = 0; k < MOST; k++) {
            Tables.read(x, page(k));
        }
        dueAddresses("the code's went", x, page(0), page(1), page(2), page(3), page(4), page(5));
        Tables.dueEntry("the second", x, 0, page(0), 16, 320, -1, 0, 3, 0);
        Tables.dueEntry("the seventh", x, MOST - 1, page(5), 16, 496, 0, 0, 2, 1);
        Code.exec(x, Code.let(0, 0));
        dueAddresses("page(0)'s went", x, page(1), page(2), page(3), page(4), page(5), 0);
        Tables.dueEntry("the fifth still", x, 4, page(5), 16, 496, 0, 0, 2, 1);
    }

    /** "the one that came first goes", although it was the latest to be used. */
    private static void useDoesNotKeepTheFirst() {
        PageGuards x = withPages(MOST - 1);
        Code.exec(x, Code.let(0, 0), Code.let(0, 0));
        Tables.read(x, page(5));
        dueAddresses("the code's went", x, page(0), page(1), page(2), page(3), page(4), page(5));
    }

    /** "What was walked without a STATE comes into the BUFFER": with one, nothing comes or goes. */
    private static void whatHasAStateDrivesNothingOut() {
        int[] words = {0, 3, Tables.second(511, 0), Tables.second(200, 0)};
        int[] states = {1, 1, 7, 2};
        for (int i = 0; i < words.length; i++) {
            PageGuards x = withPages(MOST - 1);
            x.poke(Tables.FIRST_TABLE + 9, words[i]);
            Tables.read(x, 9 * 256 + 16);
            Tables.dueDataFault("by " + words[i], x, states[i], 9 * 256 + 16);
            dueAddresses("by " + words[i], x, 0, page(0), page(1), page(2), page(3), page(4));
            Checks.due("walks", x.state(Code.WALKS), MOST + 1);
        }
    }

    /** "Then, by the entry and DOMAINS as they are now": what is forbidden was walked all the same. */
    private static void whatIsForbiddenDrivesTheFirstOut() {
        int[] words = {Tables.section(256, 0, 0), Tables.section(256, 1, 3)};
        int[] states = {5, 3};
        for (int i = 0; i < words.length; i++) {
            PageGuards x = withPages(MOST - 1);
            x.poke(Tables.FIRST_TABLE + 9, words[i]);
            Tables.read(x, 9 * 256);
            Tables.dueDataFault("by " + words[i], x, states[i], 9 * 256);
            dueAddresses("by " + words[i], x, page(0), page(1), page(2), page(3), page(4), 9 * 256);
        }
    }

    /** Of a full BUFFER one entry is forgotten at either end or between: one more has room then. */
    private static void forgottenOnesMakeRoom() {
        for (int gone = 0; gone < MOST; gone++) {
            PageGuards x = withPages(MOST - 1);
            int[] left = new int[MOST];
            int count = 0;
            for (int k = 0; k < MOST; k++) {
                if (k != gone) {
                    left[count++] = x.entry(k, 0);
                }
            }
            x.set(4, x.entry(gone, 0));
            Code.exec(x, Code.forget(1, 4));
            dueAddresses("without " + gone, x, Arrays.copyOf(left, count));
            // The next fetch walks the code's page again, if that is the one which went.
            Tables.read(x, gone == 0 ? page(1) : page(7));
            left[count] = gone == 0 ? 0 : page(7);
            dueAddresses("and one more than without " + gone, x, left);
        }
    }

    /** A small page, a large one and a section that all cover the address 512. */
    private static PageGuards threefold() {
        PageGuards x = paged(1);
        x.poke(Tables.FIRST_TABLE + 2, Tables.second(SECOND, 0));
        x.poke(SECOND, Tables.small(320, 3));
        x.poke(320, 16);
        Tables.read(x, 512);
        x.poke(SECOND + 1, Tables.large(448, 3));
        x.poke(448, 64);
        Tables.read(x, 528);
        x.poke(Tables.FIRST_TABLE + 2, Tables.section(0, 0, 3));
        x.poke(0, 256);
        Tables.read(x, 600);
        dueAddresses("all three", x, 0, 512, 512, 512);
        return x;
    }

    /** "of several the one that came last". */
    private static void lastThatCameIsFoundOfMany() {
        PageGuards x = threefold();
        Tables.read(x, 512);
        Checks.due("R0 by the section", x.state(0), 256);
        x.set(4, 700);
        Code.exec(x, Code.forget(1, 4));
        Tables.read(x, 512);
        Checks.due("R0 by the large page", x.state(0), 64);
        x.set(4, 575);
        Code.exec(x, Code.forget(1, 4));
        Tables.read(x, 512);
        Checks.due("R0 by the small page", x.state(0), 16);
        Checks.due("walks", x.state(Code.WALKS), 4);
    }

    private static void allThatCoverAreForgotten() {
        PageGuards x = threefold();
        Tables.read(x, page(15));
        x.set(4, 512);
        Code.exec(x, Code.forget(1, 4));
        dueAddresses("without 512", x, 0, page(15));
        x = threefold();
        x.set(4, 512 + 16);
        Code.exec(x, Code.forget(1, 4));
        dueAddresses("without 528", x, 0, 512);
        Checks.due("the small one stays", x.entry(1, 1), 16);
    }

    /** "n 0 all", of six. */
    private static void forgettingAllOfAFullOne() {
        PageGuards x = withPages(MOST - 1);
        Code.exec(x, Code.forget(0, 0));
        dueAddresses("none", x);
        for (int k = 0; k <= MOST; k++) {
            Checks.due("entry(" + k + ", 1)", x.entry(k, 1), -1);
        }
        Tables.read(x, page(3));
        dueAddresses("walked anew", x, 0, page(3));
    }

    private static void forgettingWhenItIsEmpty() {
        for (int n = 0; n < 3; n++) {
            PageGuards x = Code.begun();
            x.set(4, 0);
            Code.exec(x, Code.forget(n, 4));
            dueAddresses("none by " + n, x);
            Checks.due("PC", x.state(Code.PC), 11);
            PageGuards y = paged(0);
            y.set(4, 0);
            Code.exec(y, Code.forget(n, 4));
            dueAddresses("none when not used by " + n, y);
            Checks.due("PC when not used", y.state(Code.PC), 14);
        }
    }

    /** "is for all spaces or for the SPACE there is", of which there are 16. */
    private static void spacesAtTheirEnds() {
        PageGuards x = paged(1);
        x.poke(SECOND, Tables.small(320, 3) | Tables.OWN);
        int[] spaces = {15, 0, 14, 1};
        for (int i = 0; i < spaces.length; i++) {
            Code.control(x, Code.SPACE, spaces[i]);
            dueWalks(x, page(0), 1);
            Checks.due("space", x.entry(i + 1, 3), spaces[i]);
        }
        for (int i = 0; i < spaces.length; i++) {
            Code.control(x, Code.SPACE, spaces[i] + 16);
            dueWalks(x, page(0), 0);
        }
        Code.control(x, Code.SPACE, 8);
        dueWalks(x, page(0), 1);
    }

    /** "7 OWN (for this SPACE alone)", space 0 too. */
    private static void forSpaceZeroIsNotForAll() {
        PageGuards x = paged(1);
        x.poke(SECOND, Tables.small(320, 3) | Tables.OWN);
        Tables.read(x, page(0));
        Tables.read(x, page(1));
        Checks.due("the space of an own one", x.entry(1, 3), 0);
        Checks.due("the space of one for all", x.entry(2, 3), -1);
        Code.control(x, Code.SPACE, 1);
        dueWalks(x, page(1), 0);
        dueWalks(x, page(0), 1);
    }

    /** "2 those OWN to the space that is a's lowest 4 bits". */
    private static void forgetTakesFourBitsOfASpace() {
        int[] numbers = {0, 16, -16, Integer.MIN_VALUE, 15, 31, -1, Integer.MAX_VALUE};
        for (int number : numbers) {
            PageGuards x = paged(1);
            x.poke(SECOND, Tables.small(320, 3) | Tables.OWN);
            Tables.read(x, page(0));
            Code.control(x, Code.SPACE, 15);
            Tables.read(x, page(0));
            x.set(4, number);
            Code.exec(x, Code.forget(2, 4));
            Checks.due("entries without " + number, x.state(Code.ENTRIES), 2);
            Checks.due("the one that is left", x.entry(1, 3), (number & 15) == 0 ? 15 : 0);
        }
    }

    private static void forgetLeavesWhatIsForAll() {
        PageGuards x = withPages(MOST - 1);
        for (int number : new int[] {0, 15, -1, 16, Integer.MAX_VALUE}) {
            x.set(4, number);
            Code.exec(x, Code.forget(2, 4));
            dueAddresses("for all spaces", x, 0, page(0), page(1), page(2), page(3), page(4));
        }
    }

    /** A full BUFFER whose entries are all OWN to one space, the code's among them. */
    private static void forgetsEveryEntryOfASpace() {
        PageGuards x = paged(1);
        x.poke(Tables.FIRST_TABLE, Tables.CODE_SECTION | Tables.OWN);
        for (int k = 0; k < MOST - 1; k++) {
            x.poke(SECOND + k, Tables.small(320, 3) | Tables.OWN);
            Tables.read(x, page(k));
        }
        Checks.due("entries", x.state(Code.ENTRIES), MOST);
        x.set(4, 0);
        Code.exec(x, Code.forget(2, 4));
        dueAddresses("none", x);
    }

    /** "(A BUFFER that is not used never has any.)" */
    private static void unusedOneNeverHasAny() {
        PageGuards x = paged(0);
        for (int k = 0; k < MOST + 1; k++) {
            dueWalks(x, page(k), 2);
            dueAddresses("not used", x);
        }
        x.poke(320, 1);
        x.poke(336, 2);
        Tables.read(x, page(0));
        Checks.due("R0", x.state(0), 1);
        x.poke(SECOND, Tables.small(336, 3));
        Tables.read(x, page(0));
        Checks.due("R0 by the tables as they are", x.state(0), 2);
        x.poke(SECOND, 0);
        Tables.read(x, page(0));
        Tables.dueDataFault("by the tables as they are", x, 2, page(0));
    }

    /** "not ON, an empty BUFFER". */
    private static void beginEmptiesAFullOne() {
        PageGuards x = withPages(MOST - 1);
        x.begin(40);
        dueAddresses("begun", x);
        Code.control(x, Code.ON, 1);
        dueAddresses("turned ON again", x);
        dueWalks(x, page(0), 2);
        dueAddresses("walked anew", x, 0, page(0));
    }

    /** "-1 when there is none, or what is not 0 .. 6." */
    private static void entryAnswersWithinItsNumbers() {
        int[] outside = {-1, -7, 7, 8, Integer.MIN_VALUE, Integer.MAX_VALUE};
        for (int pages = 0; pages < MOST; pages++) {
            PageGuards x = withPages(pages);
            int count = x.state(Code.ENTRIES);
            Checks.due("entries", count, pages == 0 ? 0 : pages + 1);
            for (int k = -1; k <= MOST + 1; k++) {
                boolean there = k >= 0 && k < count;
                Checks.due("entry(" + k + ", 1) of " + count, x.entry(k, 1), !there ? -1 : k == 0 ? 256 : 16);
                Checks.due("entry(" + k + ", 6) of " + count, x.entry(k, 6), there ? 0 : -1);
                for (int what : outside) {
                    Checks.due("entry(" + k + ", " + what + ")", x.entry(k, what), -1);
                }
            }
            Checks.due("entry(least, 0)", x.entry(Integer.MIN_VALUE, 0), -1);
            Checks.due("entry(most, 0)", x.entry(Integer.MAX_VALUE, 0), -1);
        }
    }
}
