import java.util.ArrayList;
import java.util.List;

/**
 * Calls that are refused: each answers so, and leaves an object like another one, made by the same
 * calls, that was never asked. They are looked at in parts, each with new objects, as an object is
 * used for at most 512 calls.
 */
public final class RefusedCallsTest {
    private static final int MIN = Integer.MIN_VALUE;
    private static final int MAX = Integer.MAX_VALUE;
    private static final int KINDS = 5;
    private static final int PARTS = 5;

    private interface Call {
        long on(PageGuards x);
    }

    public static void main(String[] args) {
        pokeOutsideMemory();
        fillOutsideMemory();
        setOfNoRegister();
        lineThatIsNone();
        runOfNoNumber();
        wordOutsideMemory();
        stateOfNothing();
        entryOfNothing();
        runOfZeroChangesNothing();
        takenCallsDoChange();
        Checks.finish();
    }

    /** "0, changing nothing, when there is no such place." */
    private static void pokeOutsideMemory() {
        for (int place : new int[] {-1, 512, 513, 1023, 1024, 4096, -512, MIN, MAX}) {
            dueRefused("poke(" + place + ", -1)", x -> x.poke(place, -1), 0);
        }
    }

    /** "false, changing nothing, when not all four are there." */
    private static void fillOutsideMemory() {
        for (int place : new int[] {-5, -4, -3, -2, -1, 509, 510, 511, 512, 513, MIN, MAX - 3, MAX}) {
            dueRefused("fill(" + place + ", -1, -1)", x -> x.fill(place, -1L, -1L) ? 1 : 0, 0);
        }
    }

    /** "false when there is none such." */
    private static void setOfNoRegister() {
        for (int register : new int[] {-1, -2, 8, 9, 20, 22, 256, MIN, MAX}) {
            dueRefused("set(" + register + ", -1)", x -> x.set(register, -1) ? 1 : 0, 0);
        }
    }

    private static void lineThatIsNone() {
        for (int line : new int[] {-1, -32, -31, 4, 5, 31, 32, 33, 35, MIN, MAX}) {
            dueRefused("line(" + line + ", true)", x -> x.line(line, true) ? 1 : 0, 0);
            dueRefused("line(" + line + ", false)", x -> x.line(line, false) ? 1 : 0, 0);
        }
    }

    /** "-1 when n is not 0 .. 300." */
    private static void runOfNoNumber() {
        for (int n : new int[] {-1, -2, 301, 302, 512, MIN, MAX}) {
            dueRefused("run(" + n + ")", x -> x.run(n), -1);
        }
    }

    /** "-1 when there is none." */
    private static void wordOutsideMemory() {
        for (int place : new int[] {-1, 512, 513, MIN, MAX}) {
            dueRefused("word(" + place + ")", x -> x.word(place), -1);
        }
    }

    /** "-1 for others." */
    private static void stateOfNothing() {
        for (int what : new int[] {-1, -2, 15, 16, 17, 18, 19, 32, 33, MIN, MAX, MIN + 20}) {
            dueRefused("state(" + what + ")", x -> x.state(what), -1);
        }
    }

    /** "-1 when there is none, or what is not 0 .. 6." */
    private static void entryOfNothing() {
        for (int k : new int[] {-1, 6, 7, MIN, MAX}) {
            for (int what : new int[] {-1, 0, 3, 6, 7}) {
                dueRefused("entry(" + k + ", " + what + ")", x -> x.entry(k, what), -1);
            }
        }
        for (int what : new int[] {-1, 7, 8, MIN, MAX}) {
            dueRefused("entry(0, " + what + ")", x -> x.entry(0, what), -1);
            dueRefused("entry(5, " + what + ")", x -> x.entry(5, what), -1);
        }
    }

    private static void runOfZeroChangesNothing() {
        dueRefused("run(0)", x -> x.run(0), 0);
    }

    /** The parts that are looked at do show what the calls beside the refused ones change. */
    private static void takenCallsDoChange() {
        Call[] taken = {x -> x.poke(0, 5), x -> x.poke(511, 5), x -> x.fill(0, 1, 2) ? 1 : 0,
            x -> x.fill(508, 1, 2) ? 1 : 0, x -> x.set(0, 5) ? 1 : 0, x -> x.set(7, 5) ? 1 : 0,
            x -> x.line(0, true) ? 1 : 0, x -> x.line(3, false) ? 1 : 0, x -> x.run(1), x -> x.run(300)};
        for (int i = 0; i < taken.length; i++) {
            boolean changed = false;
            for (int part = 0; part < PARTS; part++) {
                PageGuards x = made(2);
                taken[i].on(x);
                changed |= !seen(x, part).equals(seen(made(2), part));
            }
            Checks.due("taken call " + i + " changes something", changed, true);
        }
    }

    private static void dueRefused(String what, Call call, long answer) {
        for (int kind = 0; kind < KINDS; kind++) {
            for (int part = 0; part < PARTS; part++) {
                PageGuards x = made(kind);
                Checks.due(what + " of kind " + kind, call.on(x), answer);
                boolean alike = seen(x, part).equals(seen(made(kind), part));
                Checks.due(what + " of kind " + kind + " leaves part " + part, alike, true);
            }
        }
    }

    /** Objects in all kinds of states: new, standing still, in USER, waiting, with a full BUFFER. */
    private static PageGuards made(int kind) {
        if (kind == 0) {
            return new PageGuards(1);
        }
        PageGuards x = new PageGuards(kind == 3 ? 0 : 1);
        for (int place = 0; place < 512; place += 4) {
            x.fill(place, 0x0011_0022_0033_0044L * (place + 1), 0x0111_0111_0111_0111L * place);
        }
        for (int page = 0; page < 16; page++) {
            x.poke(Tables.FIRST_TABLE + page, Tables.section(page == 0 ? 0 : 256, 3, page & 3));
        }
        x.begin(100);
        for (int mode = 1; mode < 6; mode++) {
            Code.status(x, mode | Code.NO_IRQ | Code.NO_FIQ);
            x.set(6, 600 + mode);
            x.set(7, 110 + mode);
            x.set(4, mode | Code.Z);
            Code.exec(x, Code.writeKept(4));
        }
        Code.control(x, Code.TABLE, Tables.FIRST_TABLE);
        Code.control(x, Code.DOMAINS, 0xFF);
        Code.control(x, Code.VECTORS, 150);
        Code.control(x, Code.TIMER, 400);
        Code.control(x, Code.ON, 1);
        for (int page = 1; page < 6; page++) {
            Tables.read(x, page * 256 + 3);
        }
        lastSteps(x, kind);
        return x;
    }

    private static void lastSteps(PageGuards x, int kind) {
        if (kind == 1) {
            Code.exec(x, Code.standStill());
        } else if (kind == 2) {
            Code.status(x, Code.USER | Code.NO_FIQ | Code.NO_IRQ);
            x.line(3, true);
        } else if (kind == 3) {
            Code.exec(x, Code.waits());
        } else {
            Code.status(x, Code.IRQ | Code.NO_IRQ | Code.N);
            x.line(1, true);
        }
    }

    /** One part of what can be seen of an object. */
    private static List<Integer> seen(PageGuards x, int part) {
        List<Integer> all = new ArrayList<>();
        if (part < 2) {
            for (int place = 0; place < 256; place++) {
                all.add(x.word(256 * part + place));
            }
        } else if (part == 2) {
            seeStatesAndEntries(x, all);
        } else if (part == 3) {
            all.add(x.run(3));
            seeStatesAndEntries(x, all);
            all.add(x.run(200));
            seeStatesAndEntries(x, all);
        } else {
            x.begin(200);
            for (int mode = 1; mode < 6; mode++) {
                seeMode(x, mode, all);
            }
            seeMode(x, Code.USER, all);
        }
        return all;
    }

    private static void seeStatesAndEntries(PageGuards x, List<Integer> all) {
        for (int what = 0; what < 32; what++) {
            all.add(x.state(what));
        }
        for (int k = 0; k < 6; k++) {
            for (int what = 0; what < 7; what++) {
                all.add(x.entry(k, what));
            }
        }
    }

    private static void seeMode(PageGuards x, int mode, List<Integer> all) {
        Code.status(x, mode | Code.NO_IRQ | Code.NO_FIQ);
        all.add(x.state(6));
        all.add(x.state(7));
        all.add(x.state(Code.KEPT));
    }
}
