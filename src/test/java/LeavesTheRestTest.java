import java.util.Arrays;
import java.util.LinkedHashMap;
import java.util.Map;
import java.util.Set;
import java.util.TreeSet;

/** Each operation changes what the document says of it, and nothing else. */
public final class LeavesTheRestTest {
    private static final int RICH = Code.SYSTEM | Code.NO_IRQ | Code.NO_FIQ | Code.V;

    public static void main(String[] args) {
        for (int operation = 0; operation < 10; operation++) {
            dueChanges(Code.op(operation, 2, 3, 4, 55), "PC", "R2");
        }
        dueChanges(Code.compare(3, 3), "PC", "STATUS");
        memoryOperations();
        jumps();
        statusOperations();
        otherOperations();
        exceptions();
        whatIsNotDoneByWhen();
        Checks.finish();
    }

    private static void memoryOperations() {
        dueChanges(Code.load(2, 3, 1), "PC", "R2");
        dueChanges(Code.store(2, 3, 1), "PC", "word 201");
        dueChanges(Code.loadMany(3, 0b110), "PC", "R1", "R2", "R3");
        dueChanges(Code.loadMany(3, 0b1001), "PC", "R0", "R3");
        dueChanges(Code.storeMany(3, 0b110), "PC", "R3", "word 198", "word 199");
        dueChanges(Code.loadMany(3, 0), "PC");
        dueChanges(Code.storeMany(3, 0), "PC");
    }

    private static void jumps() {
        dueChanges(Code.jump(5), "PC");
        dueChanges(Code.jump(0));
        dueChanges(Code.op(16, 2, 3, 4, 5), "PC", "R7");
        dueChanges(Code.jumpTo(3), "PC");
    }

    private static void statusOperations() {
        dueChanges(Code.readStatus(2), "PC", "R2");
        dueChanges(Code.readKept(2), "PC", "R2");
        dueChanges(Code.writeStatus(1), "PC", "STATUS");
        dueChanges(Code.writeKept(1), "KEPT", "PC");
        dueChanges(Code.comeBack(), "PC", "STATUS");
    }

    private static void otherOperations() {
        dueChanges(Code.readControl(2, Code.TABLE), "PC", "R2");
        dueChanges(Code.writeControl(Code.SPACE, 0), "PC", "control 5");
        dueChanges(Code.forget(0, 0), "PC", "entries");
        dueChanges(Code.forget(1, 6), "PC", "entries");
        dueChanges(Code.forget(2, 3), "PC", "entries");
        dueChanges(Code.forget(2, 4), "PC");
        dueChanges(Code.waits(), "PC", "waits");
        dueChanges(Code.lowerLine(), "PC", "lines");
        dueChanges(Code.standStill(), "waits");
    }

    /** The registers 6 and 7 and KEPT are those of the mode that comes. */
    private static void exceptions() {
        dueChanges(Code.op(28, 2, 3, 4, 0), "KEPT", "PC", "R6", "R7", "STATUS");
        dueChanges(Code.forget(3, 3), "KEPT", "PC", "R6", "R7", "STATUS");
        dueChanges(Code.call(), "KEPT", "PC", "R7");
        dueChanges(Code.load(2, 3, 600), "ADDRESS", "KEPT", "PC", "R6", "R7", "STATE", "STATUS", "walks");
        dueChanges(Code.store(2, 3, 600), "ADDRESS", "KEPT", "PC", "R6", "R7", "STATE", "STATUS", "walks");
    }

    /** "What is not to be done by WHEN does nothing": Z is 0, and n is right, wrong, or too far. */
    private static void whatIsNotDoneByWhen() {
        for (int operation = 0; operation < 32; operation++) {
            for (int n : new int[] {0, 1, 2, 600, -1}) {
                dueChanges(Code.when(1, Code.op(operation, 2, 3, 4, n)), "PC");
            }
        }
    }

    private static void dueChanges(int code, String... names) {
        PageGuards x = rich();
        x.poke(x.state(Code.PC), code);
        Map<String, Integer> before = seen(x);
        Checks.due("run(1)", x.run(1), 1);
        Map<String, Integer> after = seen(x);
        Set<String> changed = new TreeSet<>();
        for (String name : before.keySet()) {
            if (!before.get(name).equals(after.get(name))) {
                changed.add(name);
            }
        }
        Set<String> want = new TreeSet<>(Arrays.asList(names));
        String what = "operation " + (code >>> 27) + " changes " + changed + ", due are " + want;
        Checks.due(what, changed.equals(want), true);
        dueOtherModes(x, code >>> 27);
    }

    /** No operation here has IRQ or FIQ come, and in no mode that comes R6 is written. */
    private static void dueOtherModes(PageGuards x, int operation) {
        x.begin(60);
        for (int mode = Code.ABORT; mode <= Code.FIQ; mode++) {
            Code.status(x, mode | Code.NO_IRQ | Code.NO_FIQ);
            Checks.due("R6 of mode " + mode + " after " + operation, x.state(6), 0);
            if (mode >= Code.IRQ) {
                Checks.due("R7 of mode " + mode + " after " + operation, x.state(7), 0);
                Checks.due("KEPT of mode " + mode + " after " + operation, x.state(Code.KEPT), 0);
            }
        }
    }

    /** All lines are UP but held back; three entries, of which one is OWN to space 8. */
    private static PageGuards rich() {
        PageGuards x = Tables.on(1, 0b01);
        x.poke(Tables.FIRST_TABLE + 1, Tables.section(256, 0, 3));
        x.poke(Tables.FIRST_TABLE + 2, Tables.section(256, 0, 3) | Tables.OWN);
        for (int place = 190; place < 210; place++) {
            x.poke(place, 5 * place);
        }
        Code.control(x, Code.SPACE, 8);
        Tables.read(x, 300);
        Tables.read(x, 600);
        x.set(4, RICH ^ Code.N);
        Code.exec(x, Code.writeKept(4));
        Code.status(x, RICH);
        for (int line = 0; line < 4; line++) {
            x.line(line, true);
        }
        int[] registers = {7, RICH | Code.C, 222, 200, 44, 555, 300, 77};
        for (int r = 0; r < 8; r++) {
            x.set(r, registers[r]);
        }
        return x;
    }

    private static Map<String, Integer> seen(PageGuards x) {
        Map<String, Integer> all = new LinkedHashMap<>();
        for (int r = 0; r < 8; r++) {
            all.put("R" + r, x.state(r));
        }
        String[] names = {"PC", "STATUS", "KEPT", "waits", "lines", "entries", "walks"};
        for (int i = 0; i < names.length; i++) {
            all.put(names[i], x.state(8 + i));
        }
        for (int k = 0; k < 12; k++) {
            all.put(k == 6 ? "STATE" : k == 7 ? "ADDRESS" : "control " + k, x.state(20 + k));
        }
        for (int place = 190; place < 210; place++) {
            all.put("word " + place, x.word(place));
        }
        return all;
    }
}
