/**
 * Tables for the tests: the TABLE is at place 256, and what is laid at the addresses 0 .. 255 is
 * a section on the same places in domain 3, which is open to all, so that code there always runs.
 */
final class Tables {
    static final int FIRST_TABLE = 256;
    static final int CODE_SECTION = section(0, 3, 0);
    static final int OPEN_CODE_DOMAIN = 3 << 6;
    static final int OWN = 128;
    static final int NO_FETCH = 64;

    private Tables() {
    }

    static int section(int place, int domain, int rights) {
        return place << 8 | rights << 4 | domain << 2 | 2;
    }

    static int second(int place, int domain) {
        return place << 8 | domain << 2 | 1;
    }

    static int large(int place, int rights) {
        return place << 8 | rights << 4 | 1;
    }

    static int small(int place, int rights) {
        return place << 8 | rights << 4 | 2;
    }

    /** Begins at address 10 with the tables and DOMAINS, and turns the unit ON. */
    static PageGuards on(int buffered, int domains) {
        PageGuards x = new PageGuards(buffered);
        x.poke(FIRST_TABLE, CODE_SECTION);
        x.begin(10);
        Code.control(x, Code.TABLE, FIRST_TABLE);
        Code.control(x, Code.DOMAINS, domains | OPEN_CODE_DOMAIN);
        Code.control(x, Code.ON, 1);
        return x;
    }

    /** As on, and the addresses 3840 .. 4095 are the places 256 .. 511: behind 4095 comes 0. */
    static PageGuards round() {
        PageGuards x = on(1, 0);
        x.poke(FIRST_TABLE + 15, section(256, 3, 0));
        return x;
    }

    /** Goes to the address 4095 of round() without a register, and has a word done there. */
    static void doAtTheLast(PageGuards x, int code) {
        Code.exec(x, Code.jump(4095 - x.state(Code.PC)));
        x.poke(511, code);
        Checks.due("run(1)", x.run(1), 1);
    }

    /** Loads from an address into R0, by way of R1. */
    static void read(PageGuards x, int address) {
        x.set(1, address);
        Code.exec(x, Code.load(0, 1, 0));
    }

    /** Stores a word to an address by way of R0 and R1. */
    static void write(PageGuards x, int address, int word) {
        x.set(0, word);
        x.set(1, address);
        Code.exec(x, Code.store(0, 1, 0));
    }

    /** Goes to an address by way of R1 and makes the step that fetches there. */
    static void fetch(PageGuards x, int address) {
        x.set(1, address);
        Code.exec(x, Code.jumpTo(1));
        Checks.due("run(1)", x.run(1), 1);
    }

    /** The latest fault with data is due, told to the program in ABORT at vector 4. */
    static void dueDataFault(String what, PageGuards x, int state, int address) {
        Checks.due(what + ": STATE of data", x.state(26), state);
        Checks.due(what + ": ADDRESS of data", x.state(27), address);
        Checks.due(what + ": mode", x.state(Code.STATUS) & 7, Code.ABORT);
        Checks.due(what + ": PC", x.state(Code.PC), 4);
    }

    /** The latest fault with instructions is due, told to the program in ABORT at vector 3. */
    static void dueFetchFault(String what, PageGuards x, int state, int address) {
        dueFetchFault(what, x, state, address, 3);
    }

    /** The same with the vector at some address. */
    static void dueFetchFault(String what, PageGuards x, int state, int address, int vector) {
        Checks.due(what + ": STATE of instructions", x.state(28), state);
        Checks.due(what + ": ADDRESS of instructions", x.state(29), address);
        Checks.due(what + ": mode", x.state(Code.STATUS) & 7, Code.ABORT);
        Checks.due(what + ": PC", x.state(Code.PC), vector);
        Checks.due(what + ": R7", x.state(7), address);
    }

    /** All seven fields of an entry are due. */
    static void dueEntry(String what, PageGuards x, int k, int... fields) {
        for (int field = 0; field < fields.length; field++) {
            Checks.due(what + ": entry(" + k + ", " + field + ")", x.entry(k, field), fields[field]);
        }
    }
}
