/**
 * A small processor with modes of its own for what goes wrong, and the unit by which all its
 * addresses go. The words in capitals in the comments are the terms of the document.
 */
public final class PageGuards {
    private static final int PLACES = 512;
    private static final int PLACE_BITS = 511;
    private static final int ADDRESS_BITS = 4095;
    private static final int MOST_STEPS = 300;

    private static final int REGISTERS = 8;
    private static final int COMMON_REGISTERS = 6;
    private static final int RETURN_REGISTER = 7;
    private static final int LINES = 4;
    private static final int TIMER_LINE = 1;
    private static final int IRQ_LINES = 7;
    private static final int FIQ_LINE = 8;

    private static final int USER = 0;
    private static final int SYSTEM = 1;
    private static final int ABORT = 2;
    private static final int UNKNOWN = 3;
    private static final int IRQ = 4;
    private static final int FIQ = 5;
    // As many as three bits can name, so that no mode is ever an index too high.
    private static final int MODE_ROOM = 8;

    private static final int STATUS_BITS = 511;
    private static final int MODE_BITS = 7;
    private static final int NO_IRQ = 8;
    private static final int NO_FIQ = 16;
    private static final int V = 32;
    private static final int C = 64;
    private static final int Z = 128;
    private static final int N = 256;
    private static final int FLAGS = V | C | Z | N;

    private static final int ON = 0;
    private static final int TABLE = 1;
    private static final int HIGH_TABLE = 2;
    private static final int SPLIT = 3;
    private static final int DOMAINS = 4;
    private static final int SPACE = 5;
    private static final int DATA_FAULT = 6;
    private static final int FETCH_FAULT = 8;
    private static final int VECTORS = 10;
    private static final int TIMER = 11;
    private static final int CONTROLS = 12;
    private static final int[] CONTROL_BITS = {1, 9, 9, 2, 8, 4, 3, 12, 3, 12, 12, 16};

    private static final int UNKNOWN_OPERATION = 1;
    private static final int CALLED = 2;
    private static final int FETCH_ABORT = 3;
    private static final int DATA_ABORT = 4;
    private static final int IRQ_REQUEST = 5;
    private static final int FIQ_REQUEST = 6;
    // By the number of the exception; there is no exception 0.
    private static final int[] EXCEPTION_MODES = {SYSTEM, UNKNOWN, SYSTEM, ABORT, ABORT, IRQ, FIQ};

    private static final int READ = 0;
    private static final int WRITE = 1;
    private static final int FETCH = 2;

    private static final int LET = 0;
    private static final int ADD = 1;
    private static final int SUBTRACT = 2;
    private static final int AND = 3;
    private static final int OR = 4;
    private static final int XOR = 5;
    private static final int SHIFT_LEFT = 6;
    private static final int SHIFT_RIGHT = 7;
    private static final int MULTIPLY = 8;
    private static final int ADD_NUMBER = 9;
    private static final int COMPARE = 10;
    private static final int LOAD = 11;
    private static final int STORE = 12;
    private static final int LOAD_MANY = 13;
    private static final int STORE_MANY = 14;
    private static final int JUMP = 15;
    private static final int JUMP_LINKED = 16;
    private static final int JUMP_TO_REGISTER = 17;
    private static final int CALL = 18;
    private static final int READ_STATUS = 19;
    private static final int WRITE_STATUS = 20;
    private static final int RETURN = 21;
    private static final int READ_CONTROL = 22;
    private static final int WRITE_CONTROL = 23;
    private static final int FORGET = 24;
    private static final int WAIT = 25;
    private static final int LOWER_LINE = 26;
    private static final int STAND_STILL = 27;

    private final Unit unit;
    private final int[] registers = new int[REGISTERS + 2 * (MODE_ROOM - 1)];
    private final int[] kept = new int[MODE_ROOM];
    private final int[] loaded = new int[REGISTERS];
    private int pc;
    private int status = SYSTEM | NO_IRQ | NO_FIQ;
    private int lines;
    private boolean waits;
    private boolean still = true;

    public PageGuards(int buffered) {
        unit = new Unit(buffered != 0);
    }

    public int poke(int place, int word) {
        if (place < 0 || place >= PLACES) {
            return 0;
        }
        int before = unit.memory[place];
        unit.memory[place] = word;
        return before;
    }

    public boolean fill(int place, long low, long high) {
        if (place < 0 || place > PLACES - 4) {
            return false;
        }
        for (int k = 0; k < 4; k++) {
            int lowest = (int) (low >>> 16 * k) & 0xFFFF;
            int highest = (int) (high >>> 16 * k) << 16;
            unit.memory[place + k] = highest | lowest;
        }
        return true;
    }

    public void begin(int address) {
        pc = address & ADDRESS_BITS;
        status = SYSTEM | NO_IRQ | NO_FIQ;
        unit.writeControl(ON, 0);
        unit.buffer.forgetAll();
        waits = false;
        still = false;
    }

    public boolean set(int register, int v) {
        if (register < 0 || register >= REGISTERS) {
            return false;
        }
        writeRegister(register, v);
        return true;
    }

    public boolean line(int line, boolean up) {
        if (line < 0 || line >= LINES) {
            return false;
        }
        int bit = 1 << line;
        lines = up ? lines | bit : lines & ~bit;
        return true;
    }

    public int run(int n) {
        if (n < 0 || n > MOST_STEPS) {
            return -1;
        }
        int made = 0;
        while (made < n && !still) {
            step();
            made++;
        }
        return made;
    }

    public int word(int place) {
        return place < 0 || place >= PLACES ? -1 : unit.memory[place];
    }

    public int state(int what) {
        if (what >= 0 && what < REGISTERS) {
            return readRegister(what);
        }
        if (what >= 20 && what < 20 + CONTROLS) {
            return unit.controls[what - 20];
        }
        switch (what) {
            case 8:
                return pc;
            case 9:
                return status;
            case 10:
                // USER has none: no operation and no exception writes its row, so it stays 0.
                return kept[mode()];
            case 11:
                return still ? 2 : waits ? 1 : 0;
            case 12:
                return lines;
            case 13:
                return unit.buffer.count;
            case 14:
                return unit.walks;
            default:
                return -1;
        }
    }

    public int entry(int k, int what) {
        if (k < 0 || k >= unit.buffer.count || what < 0 || what >= Buffer.FIELDS) {
            return -1;
        }
        return unit.buffer.field(k, what);
    }

    private int mode() {
        return status & MODE_BITS;
    }

    private boolean privileged() {
        return mode() != USER;
    }

    /** Where a register of a mode is held: the common ones first, then two for each mode. */
    private static int slot(int mode, int register) {
        return register < COMMON_REGISTERS ? register : register + 2 * mode;
    }

    private int readRegister(int register) {
        return registers[slot(mode(), register)];
    }

    private void writeRegister(int register, int v) {
        registers[slot(mode(), register)] = v;
    }

    private void step() {
        countTimer();
        if (waits && lines == 0) {
            return;
        }
        waits = false;
        int request = dueRequest();
        int next;
        if (request != 0) {
            next = raise(request, pc);
        } else {
            int place = unit.translate(pc, FETCH, privileged());
            next = place < 0 ? fetchFault(-place) : perform(unit.memory[place]);
        }
        pc = next & ADDRESS_BITS;
    }

    private void countTimer() {
        int timer = unit.controls[TIMER];
        if (timer > 0) {
            unit.writeControl(TIMER, timer - 1);
            if (timer == 1) {
                lines |= TIMER_LINE;
            }
        }
    }

    /** The exception that a line asks for and the STATUS lets through; 0 if there is none. */
    private int dueRequest() {
        if ((lines & FIQ_LINE) != 0 && !has(NO_FIQ)) {
            return FIQ_REQUEST;
        }
        if ((lines & IRQ_LINES) != 0 && !has(NO_IRQ)) {
            return IRQ_REQUEST;
        }
        return 0;
    }

    /** Makes an exception, back being what its mode's R7 becomes: the PC that comes. */
    private int raise(int exception, int back) {
        int mode = EXCEPTION_MODES[exception];
        kept[mode] = status;
        registers[slot(mode, RETURN_REGISTER)] = back & ADDRESS_BITS;
        status = status & ~MODE_BITS | mode | NO_IRQ;
        if (exception == FIQ_REQUEST) {
            status |= NO_FIQ;
        }
        return unit.controls[VECTORS] + exception;
    }

    private int fetchFault(int fault) {
        unit.tellFault(FETCH_FAULT, fault, pc);
        return raise(FETCH_ABORT, pc);
    }

    private int dataFault(int fault, int address) {
        unit.tellFault(DATA_FAULT, fault, address);
        return raise(DATA_ABORT, pc);
    }

    /** Does an operation and answers the PC that comes, of which the lowest 12 bits count. */
    private int perform(int code) {
        int operation = code >>> 27;
        int d = code >>> 24 & 7;
        int a = code >>> 21 & 7;
        int b = code >>> 18 & 7;
        int n = code << 16 >> 16;
        if (!isDue(code >>> 16 & 3)) {
            return pc + 1;
        }
        if (isUnknown(operation, n)) {
            return raise(UNKNOWN_OPERATION, pc + 1);
        }
        int first = readRegister(a);
        if (operation < COMPARE) {
            writeRegister(d, computed(operation, first, readRegister(b), n));
            return pc + 1;
        }
        switch (operation) {
            case COMPARE:
                compare(first, readRegister(b));
                return pc + 1;
            case LOAD:
                return load(d, first + n);
            case STORE:
                return store(d, first + n);
            case LOAD_MANY:
                return loadMany(a, n);
            case STORE_MANY:
                return storeMany(a, n);
            case JUMP:
                return pc + n;
            case JUMP_LINKED:
                writeRegister(RETURN_REGISTER, pc + 1 & ADDRESS_BITS);
                return pc + n;
            case JUMP_TO_REGISTER:
                return first;
            case CALL:
                return raise(CALLED, pc + 1);
            case RETURN:
                return returnFromException();
            case STAND_STILL:
                still = true;
                return pc;
            default:
                govern(operation, d, first, n);
                return pc + 1;
        }
    }

    private boolean isDue(int when) {
        switch (when) {
            case 0:
                return true;
            case 1:
                return has(Z);
            case 2:
                return !has(Z);
            default:
                return has(N) != has(V);
        }
    }

    private boolean has(int statusBit) {
        return (status & statusBit) != 0;
    }

    private boolean isUnknown(int operation, int n) {
        switch (operation) {
            case READ_STATUS:
            case WRITE_STATUS:
                return !privileged() && isOdd(n);
            case READ_CONTROL:
            case WRITE_CONTROL:
                return !privileged() || n < 0 || n >= CONTROLS;
            case FORGET:
                return !privileged() || n < 0 || n > 2;
            case RETURN:
            case WAIT:
            case LOWER_LINE:
            case STAND_STILL:
                return !privileged();
            default:
                return operation > STAND_STILL;
        }
    }

    private static boolean isOdd(int n) {
        return (n & 1) != 0;
    }

    private static int computed(int operation, int a, int b, int n) {
        switch (operation) {
            case LET:
                return n;
            case ADD:
                return a + b;
            case SUBTRACT:
                return a - b;
            case AND:
                return a & b;
            case OR:
                return a | b;
            case XOR:
                return a ^ b;
            case SHIFT_LEFT:
                return a << (n & 31);
            case SHIFT_RIGHT:
                return a >>> (n & 31);
            case MULTIPLY:
                return a * b;
            case ADD_NUMBER:
            default:
                return a + n;
        }
    }

    private void compare(int a, int b) {
        int difference = a - b;
        int flags = 0;
        if (difference < 0) {
            flags |= N;
        }
        if (difference == 0) {
            flags |= Z;
        }
        if (Integer.compareUnsigned(a, b) >= 0) {
            flags |= C;
        }
        if ((long) a - (long) b != difference) {
            flags |= V;
        }
        status = status & ~FLAGS | flags;
    }

    private int load(int d, int address) {
        int place = unit.translate(address, READ, privileged());
        if (place < 0) {
            return dataFault(-place, address);
        }
        writeRegister(d, unit.memory[place]);
        return pc + 1;
    }

    private int store(int d, int address) {
        int place = unit.translate(address, WRITE, privileged());
        if (place < 0) {
            return dataFault(-place, address);
        }
        unit.memory[place] = readRegister(d);
        return pc + 1;
    }

    private int loadMany(int a, int n) {
        int address = readRegister(a);
        for (int r = 0; r < REGISTERS; r++) {
            if (isChosen(r, n)) {
                int place = unit.translate(address, READ, privileged());
                if (place < 0) {
                    return dataFault(-place, address);
                }
                loaded[r] = unit.memory[place];
                address++;
            }
        }
        // Ahead of what was loaded, which thus wins if a is itself among the chosen.
        writeRegister(a, address & ADDRESS_BITS);
        // Only now that no fault can come any more: with one no register may be changed.
        for (int r = 0; r < REGISTERS; r++) {
            if (isChosen(r, n)) {
                writeRegister(r, loaded[r]);
            }
        }
        return pc + 1;
    }

    private int storeMany(int a, int n) {
        int lowest = readRegister(a) - Integer.bitCount(n & 0xFF);
        int address = lowest;
        for (int r = 0; r < REGISTERS; r++) {
            if (isChosen(r, n)) {
                int place = unit.translate(address, WRITE, privileged());
                if (place < 0) {
                    return dataFault(-place, address);
                }
                unit.memory[place] = readRegister(r);
                address++;
            }
        }
        writeRegister(a, lowest & ADDRESS_BITS);
        return pc + 1;
    }

    private static boolean isChosen(int register, int n) {
        return (n >>> register & 1) != 0;
    }

    private int returnFromException() {
        int back = readRegister(RETURN_REGISTER);
        status = withKnownMode(kept[mode()]);
        return back;
    }

    private static int withKnownMode(int bits) {
        return (bits & MODE_BITS) > FIQ ? bits & ~MODE_BITS | UNKNOWN : bits;
    }

    /** The operations on STATUS, controls, BUFFER and lines, after which PC always grows by 1. */
    private void govern(int operation, int d, int a, int n) {
        switch (operation) {
            case READ_STATUS:
                writeRegister(d, isOdd(n) ? kept[mode()] : status);
                break;
            case WRITE_STATUS:
                writeStatus(a, isOdd(n));
                break;
            case READ_CONTROL:
                writeRegister(d, unit.controls[n]);
                break;
            case WRITE_CONTROL:
                unit.writeControl(n, a);
                break;
            case FORGET:
                forget(n, a);
                break;
            case WAIT:
                waits = true;
                break;
            case LOWER_LINE:
                lines &= ~TIMER_LINE;
                break;
            default:
                break;
        }
    }

    private void writeStatus(int v, boolean toKept) {
        if (toKept) {
            // Modes 6 and 7 stay as they are here: the return is what makes them UNKNOWN.
            kept[mode()] = v & STATUS_BITS;
        } else if (privileged()) {
            status = withKnownMode(v & STATUS_BITS);
        } else {
            status = status & ~FLAGS | v & FLAGS;
        }
    }

    private void forget(int n, int a) {
        if (n == 0) {
            unit.buffer.forgetAll();
        } else if (n == 1) {
            unit.buffer.forgetAddress(a & ADDRESS_BITS, unit.controls[SPACE]);
        } else {
            unit.buffer.forgetSpace(a & 15);
        }
    }

    /** Memory with the controls, and the way from an address to a place. */
    private static final class Unit {
        private static final int NO_FIRST = 1;
        private static final int NO_LAST = 2;
        private static final int CLOSED_SECTION = 3;
        private static final int CLOSED_PAGE = 4;
        private static final int FORBIDDEN_SECTION = 5;
        private static final int FORBIDDEN_PAGE = 6;
        private static final int NO_PLACE = 7;

        private static final int SECTION_WORDS = 256;
        private static final int LARGE_WORDS = 64;
        private static final int SMALL_WORDS = 16;

        private static final int SECOND_TABLE = 1;
        private static final int SECTION = 2;
        private static final int LARGE = 1;

        private static final int BY_RIGHTS = 1;
        private static final int ALL_MAY = 3;

        private final int[] memory = new int[PLACES];
        private final int[] controls = new int[CONTROLS];
        private final Buffer buffer;
        private int walks;

        Unit(boolean buffered) {
            buffer = new Buffer(buffered);
        }

        void writeControl(int control, int v) {
            controls[control] = v & (1 << CONTROL_BITS[control]) - 1;
        }

        /** Tells a fault in a control and the one behind it. */
        void tellFault(int control, int fault, int address) {
            writeControl(control, fault);
            writeControl(control + 1, address);
        }

        /** The place of an address, or the STATE that forbids it, below 0. */
        int translate(int sum, int use, boolean privileged) {
            int address = sum & ADDRESS_BITS;
            if (controls[ON] == 0) {
                return placeOrFault(address);
            }
            int k = buffer.find(address, controls[SPACE]);
            if (k < 0) {
                walks++;
                int fault = walk(address);
                if (fault != 0) {
                    return -fault;
                }
                k = buffer.takeWalked();
            }
            int refusal = refusal(k, use, privileged);
            if (refusal != 0) {
                return -refusal;
            }
            int behind = address - buffer.field(k, Buffer.FIRST_ADDRESS);
            return placeOrFault(buffer.field(k, Buffer.FIRST_PLACE) + behind);
        }

        private static int placeOrFault(int place) {
            return place < PLACES ? place : -NO_PLACE;
        }

        /** Looks an address up in the tables, into the walked entry: the STATE, or 0. */
        private int walk(int address) {
            int place = tableFor(address) + (address >>> 8);
            if (place >= PLACES) {
                return NO_PLACE;
            }
            int first = memory[place];
            int kind = first & 3;
            if (kind == SECTION) {
                buffer.describe(address, SECTION_WORDS, first, first, controls[SPACE]);
                return 0;
            }
            if (kind != SECOND_TABLE) {
                return NO_FIRST;
            }
            place = (first >>> 8 & PLACE_BITS) + (address >>> 4 & 15);
            if (place >= PLACES) {
                return NO_PLACE;
            }
            int last = memory[place];
            int size = last & 3;
            if (size == 0) {
                return NO_LAST;
            }
            int words = size == LARGE ? LARGE_WORDS : SMALL_WORDS;
            buffer.describe(address, words, first, last, controls[SPACE]);
            return 0;
        }

        private int tableFor(int address) {
            boolean high = address >>> 12 - controls[SPLIT] != 0;
            return controls[high ? HIGH_TABLE : TABLE];
        }

        /** The STATE by which an entry may not be used so; 0 when it may. */
        private int refusal(int k, int use, boolean privileged) {
            boolean section = buffer.field(k, Buffer.WORDS) == SECTION_WORDS;
            int access = controls[DOMAINS] >>> 2 * buffer.field(k, Buffer.DOMAIN) & 3;
            if (access == ALL_MAY) {
                return 0;
            }
            if (access != BY_RIGHTS) {
                return section ? CLOSED_SECTION : CLOSED_PAGE;
            }
            boolean noFetch = buffer.field(k, Buffer.NO_FETCH) != 0;
            if (allows(buffer.field(k, Buffer.RIGHTS), noFetch, use, privileged)) {
                return 0;
            }
            return section ? FORBIDDEN_SECTION : FORBIDDEN_PAGE;
        }

        private static boolean allows(int rights, boolean noFetch, int use, boolean privileged) {
            if (use == FETCH && noFetch) {
                return false;
            }
            switch (rights) {
                case 0:
                    return false;
                case 1:
                    return privileged;
                case 2:
                    return privileged || use != WRITE;
                default:
                    return true;
            }
        }
    }

    /** The entries by their coming, and behind the last of them room for the one being walked. */
    private static final class Buffer {
        private static final int MOST = 6;

        // In the order in which the document's entry() numbers them.
        private static final int FIRST_ADDRESS = 0;
        private static final int WORDS = 1;
        private static final int FIRST_PLACE = 2;
        private static final int OWN_SPACE = 3;
        private static final int DOMAIN = 4;
        private static final int RIGHTS = 5;
        private static final int NO_FETCH = 6;
        private static final int FIELDS = 7;

        private static final int ALL_SPACES = -1;

        private final int[] fields = new int[(MOST + 1) * FIELDS];
        private final boolean used;
        private int count;

        Buffer(boolean used) {
            this.used = used;
        }

        int field(int k, int what) {
            return fields[k * FIELDS + what];
        }

        /** Describes the walked entry by its FIRST and LAST word and the SPACE there is. */
        void describe(int address, int words, int first, int last, int space) {
            int row = count * FIELDS;
            boolean own = (last >>> 7 & 1) != 0;
            fields[row + FIRST_ADDRESS] = address & -words;
            fields[row + WORDS] = words;
            fields[row + FIRST_PLACE] = last >>> 8 & PLACE_BITS & -words;
            fields[row + OWN_SPACE] = own ? space : ALL_SPACES;
            fields[row + DOMAIN] = first >>> 2 & 3;
            fields[row + RIGHTS] = last >>> 4 & 3;
            fields[row + NO_FETCH] = last >>> 6 & 1;
        }

        /** Keeps the walked entry, if the BUFFER is used: the number by which to read it now. */
        int takeWalked() {
            if (!used) {
                return count;
            }
            count++;
            if (count > MOST) {
                drop(0);
            }
            return count - 1;
        }

        /** The entry that came last of those for an address in a space; -1 if there is none. */
        int find(int address, int space) {
            for (int k = count - 1; k >= 0; k--) {
                if (serves(k, address, space)) {
                    return k;
                }
            }
            return -1;
        }

        void forgetAll() {
            count = 0;
        }

        void forgetAddress(int address, int space) {
            for (int k = count - 1; k >= 0; k--) {
                if (serves(k, address, space)) {
                    drop(k);
                }
            }
        }

        void forgetSpace(int space) {
            for (int k = count - 1; k >= 0; k--) {
                if (field(k, OWN_SPACE) == space) {
                    drop(k);
                }
            }
        }

        private boolean serves(int k, int address, int space) {
            int row = k * FIELDS;
            int behind = address - fields[row + FIRST_ADDRESS];
            int own = fields[row + OWN_SPACE];
            boolean covers = behind >= 0 && behind < fields[row + WORDS];
            return covers && (own == ALL_SPACES || own == space);
        }

        private void drop(int k) {
            int from = (k + 1) * FIELDS;
            System.arraycopy(fields, from, fields, from - FIELDS, count * FIELDS - from);
            count--;
        }
    }
}
