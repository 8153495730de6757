/** Promise 10 and the BUFFER: what comes, what goes, and what is found. */
public final class BufferTest {
    private static final int OPEN = 0b01;
    private static final int SECOND = 300;

    public static void main(String[] args) {
        entryNeedsAnEntry();
        firstGoesWhenItIsFull();
        buffersUntilToldToForget();
        lastOneIsFound();
        spacesHaveTheirOwn();
        forgetsAll();
        forgetsAnAddress();
        forgetsASpace();
        forgetsTheFirstAndTheLast();
        turningOffForgetsNothing();
        forbiddenEntriesComeToo();
        Checks.finish();
    }

    /** Small pages at the addresses 256 + 16 * k, on the place 320 + 16 * (k & 7). */
    private static PageGuards paged() {
        PageGuards x = Tables.on(1, OPEN);
        x.poke(Tables.FIRST_TABLE + 1, Tables.second(SECOND, 0));
        for (int k = 0; k < 16; k++) {
            x.poke(SECOND + k, Tables.small(320 + 16 * (k & 7), 3));
        }
        return x;
    }

    private static int page(int k) {
        return 256 + 16 * k;
    }

    private static void dueAddresses(String what, PageGuards x, int... addresses) {
        Checks.due(what + ": entries", x.state(Code.ENTRIES), addresses.length);
        for (int k = 0; k < addresses.length; k++) {
            Checks.due(what + ": entry(" + k + ", 0)", x.entry(k, 0), addresses[k]);
        }
        Checks.due(what + ": behind them", x.entry(addresses.length, 0), -1);
    }

    private static void entryNeedsAnEntry() {
        PageGuards x = Tables.on(1, OPEN);
        Checks.due("entry(0, 0) ahead of all", x.entry(0, 0), -1);
        Tables.read(x, 0);
        Tables.dueEntry("code", x, 0, 0, 256, 0, -1, 3, 0, 0);
        for (int k : new int[] {-1, 1, 2, 5, 6, 7, Integer.MIN_VALUE, Integer.MAX_VALUE}) {
            Checks.due("entry(" + k + ", 1)", x.entry(k, 1), -1);
        }
        for (int what : new int[] {-1, 7, 8, 14, Integer.MIN_VALUE, Integer.MAX_VALUE}) {
            Checks.due("entry(0, " + what + ")", x.entry(0, what), -1);
        }
        Checks.due("entry(1, -7)", x.entry(1, -7), -1);
    }

    private static void firstGoesWhenItIsFull() {
        PageGuards x = paged();
        for (int k = 0; k < 5; k++) {
            Tables.read(x, page(k));
        }
        dueAddresses("full", x, 0, page(0), page(1), page(2), page(3), page(4));
        Tables.read(x, page(0));
        Checks.due("walks", x.state(Code.WALKS), 6);
        Tables.read(x, page(5));
        dueAddresses("the first went", x, page(0), page(1), page(2), page(3), page(4), page(5));
        Checks.due("the place of the last", x.entry(5, 2), 400);
        Tables.read(x, page(6));
        dueAddresses("by a fetch and a load", x, page(2), page(3), page(4), page(5), 0, page(6));
        Checks.due("walks at last", x.state(Code.WALKS), 9);
        Checks.due("entry(6, 0)", x.entry(6, 0), -1);
    }

    private static void buffersUntilToldToForget() {
        PageGuards x = paged();
        x.poke(320, 1);
        x.poke(400, 2);
        Tables.read(x, page(0));
        Checks.due("R0", x.state(0), 1);
        x.poke(SECOND, Tables.small(400, 0));
        x.poke(Tables.FIRST_TABLE + 1, 0);
        Code.control(x, Code.TABLE, 0);
        Tables.read(x, page(0));
        Checks.due("R0 as it was walked", x.state(0), 1);
        Code.control(x, Code.TABLE, Tables.FIRST_TABLE);
        x.poke(Tables.FIRST_TABLE + 1, Tables.second(SECOND, 0));
        x.poke(SECOND, Tables.small(400, 3));
        x.set(4, page(0));
        Code.exec(x, Code.forget(1, 4));
        Tables.read(x, page(0));
        Checks.due("R0 walked anew", x.state(0), 2);
    }

    private static void lastOneIsFound() {
        PageGuards x = paged();
        x.poke(320, 1);
        x.poke(384, 2);
        Tables.read(x, page(0));
        Checks.due("R0 by the small page", x.state(0), 1);
        x.poke(SECOND + 1, Tables.large(384, 3));
        Tables.read(x, page(1));
        Tables.read(x, page(0));
        Checks.due("R0 by the large page", x.state(0), 2);
        dueAddresses("both", x, 0, page(0), page(0));
        x.set(4, page(2));
        Code.exec(x, Code.forget(1, 4));
        dueAddresses("the large one went", x, 0, page(0));
        Tables.read(x, page(0));
        Checks.due("R0 by the small page again", x.state(0), 1);
    }

    private static void spacesHaveTheirOwn() {
        PageGuards x = paged();
        x.poke(SECOND, Tables.small(320, 3) | Tables.OWN);
        x.poke(320, 1);
        x.poke(336, 2);
        Code.control(x, Code.SPACE, 9);
        Tables.read(x, page(0));
        Tables.read(x, page(2));
        Checks.due("space of the own one", x.entry(1, 3), 9);
        Checks.due("space of the other", x.entry(2, 3), -1);
        x.poke(SECOND, Tables.small(336, 3) | Tables.OWN);
        Code.control(x, Code.SPACE, 15);
        Tables.read(x, page(0));
        Checks.due("R0 in 15", x.state(0), 2);
        Checks.due("space of the third", x.entry(3, 3), 15);
        Tables.read(x, page(2));
        Checks.due("walks", x.state(Code.WALKS), 4);
        Code.control(x, Code.SPACE, 9);
        Tables.read(x, page(0));
        Checks.due("R0 in 9", x.state(0), 1);
        Checks.due("walks again", x.state(Code.WALKS), 4);
        dueAddresses("all", x, 0, page(0), page(2), page(0));
    }

    private static void forgetsAll() {
        PageGuards x = paged();
        x.poke(SECOND + 1, Tables.small(336, 3) | Tables.OWN);
        Tables.read(x, page(0));
        Tables.read(x, page(1));
        Code.exec(x, Code.forget(0, 4));
        dueAddresses("none", x);
        Tables.read(x, page(1));
        dueAddresses("walked anew", x, 0, page(1));
        Checks.due("walks", x.state(Code.WALKS), 5);
    }

    private static void forgetsAnAddress() {
        PageGuards x = paged();
        x.poke(SECOND, Tables.small(320, 3) | Tables.OWN);
        Tables.read(x, page(0));
        Code.control(x, Code.SPACE, 3);
        Tables.read(x, page(0));
        Tables.read(x, page(1));
        Tables.read(x, page(2));
        dueAddresses("ahead", x, 0, page(0), page(0), page(1), page(2));
        x.set(4, 4096 * 5 + page(0) + 15);
        Code.exec(x, Code.forget(1, 4));
        dueAddresses("of space 3", x, 0, page(0), page(1), page(2));
        Checks.due("that of space 0 stays", x.entry(1, 3), 0);
        Code.exec(x, Code.forget(1, 4));
        Checks.due("and stays", x.state(Code.ENTRIES), 4);
        x.set(4, page(1));
        Code.exec(x, Code.forget(1, 4));
        dueAddresses("of all spaces", x, 0, page(0), page(2));
        x.set(4, page(3));
        Code.exec(x, Code.forget(1, 4));
        dueAddresses("of none", x, 0, page(0), page(2));
        Code.control(x, Code.SPACE, 0);
        x.set(4, page(0));
        Code.exec(x, Code.forget(1, 4));
        dueAddresses("of space 0", x, 0, page(2));
    }

    private static void forgetsASpace() {
        PageGuards x = paged();
        for (int k = 0; k < 4; k++) {
            x.poke(SECOND + k, Tables.small(320, 3) | Tables.OWN);
        }
        Tables.read(x, page(0));
        Code.control(x, Code.SPACE, 3);
        Tables.read(x, page(1));
        Tables.read(x, page(2));
        Tables.read(x, page(5));
        Code.control(x, Code.SPACE, 4);
        Tables.read(x, page(3));
        dueAddresses("ahead", x, 0, page(0), page(1), page(2), page(5), page(3));
        x.set(4, -16 + 3);
        Code.exec(x, Code.forget(2, 4));
        dueAddresses("without 3", x, 0, page(0), page(5), page(3));
        x.set(4, 15);
        Code.exec(x, Code.forget(2, 4));
        dueAddresses("those for all spaces stay", x, 0, page(0), page(5), page(3));
        x.set(4, 16);
        Code.exec(x, Code.forget(2, 4));
        dueAddresses("without 0", x, 0, page(5), page(3));
        Checks.due("the space of the last", x.entry(2, 3), 4);
    }

    private static void forgetsTheFirstAndTheLast() {
        PageGuards x = paged();
        x.poke(SECOND + 1, Tables.small(320, 3) | Tables.OWN);
        Tables.read(x, page(0));
        x.set(4, 255);
        Code.exec(x, Code.forget(1, 4));
        dueAddresses("the first by its address", x, page(0));
        Code.exec(x, Code.forget(0, 4));
        Tables.read(x, page(1));
        x.set(4, 0);
        Code.exec(x, Code.forget(2, 4));
        dueAddresses("the last by its space", x, 0);
        x.set(4, page(1));
        Code.exec(x, Code.forget(1, 4));
        dueAddresses("what is gone goes once", x, 0);
        x.set(4, 0);
        Code.exec(x, Code.forget(2, 4));
        dueAddresses("what is gone goes once, by its space", x, 0);
        x.poke(Tables.FIRST_TABLE, Tables.CODE_SECTION | Tables.OWN);
        Code.exec(x, Code.forget(0, 4));
        Tables.read(x, page(0));
        dueAddresses("walked anew", x, 0, page(0));
        Code.exec(x, Code.forget(2, 4));
        dueAddresses("the first by its space", x, page(0));
    }

    private static void turningOffForgetsNothing() {
        PageGuards x = paged();
        Tables.read(x, page(0));
        Code.control(x, Code.ON, 0);
        Checks.due("entries when not ON", x.state(Code.ENTRIES), 2);
        x.poke(258, 77);
        Tables.read(x, 258);
        Checks.due("R0 when not ON", x.state(0), 77);
        Code.control(x, Code.ON, 1);
        Tables.read(x, page(0));
        Checks.due("walks", x.state(Code.WALKS), 2);
    }

    private static void forbiddenEntriesComeToo() {
        PageGuards x = paged();
        x.poke(SECOND, Tables.small(320, 0));
        Tables.read(x, page(0));
        Tables.dueDataFault("by RIGHTS 0", x, 6, page(0));
        dueAddresses("it came", x, 0, page(0));
        Tables.read(x, page(0));
        Checks.due("walks", x.state(Code.WALKS), 2);
    }
}
