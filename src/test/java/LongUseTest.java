/** "An object is used for at most 512 calls after it has been made": the last is answered like any. */
public final class LongUseTest {
    private static final int MOST_CALLS = 512;

    public static void main(String[] args) {
        everyCallIsAPoke();
        everyStepWalks();
        everyStepIsAFault();
        everyCallBegins();
        Checks.finish();
    }

    private static void everyCallIsAPoke() {
        PageGuards x = new PageGuards(1);
        for (int i = 0; i < MOST_CALLS; i++) {
            Checks.due("poke of call " + i, x.poke(511, i + 1), i);
        }
    }

    /**
     * Without a BUFFER, 9 addresses are walked by each LOAD of eight registers and 1 by the jump
     * back to it: no run of calls can have more than some 1.4 million walks to count.
     */
    private static void everyStepWalks() {
        PageGuards x = new PageGuards(0);
        x.poke(Tables.FIRST_TABLE, Tables.CODE_SECTION);
        x.poke(100, Code.writeControl(Code.TABLE, 1));
        x.poke(101, Code.writeControl(Code.DOMAINS, 2));
        x.poke(102, Code.writeControl(Code.ON, 4));
        x.poke(103, Code.loadMany(3, 0xFF));
        x.poke(104, Code.jump(-1));
        x.poke(203, 200);
        x.set(1, Tables.FIRST_TABLE);
        x.set(2, Tables.OPEN_CODE_DOMAIN);
        x.set(3, 200);
        x.set(4, 1);
        x.begin(100);
        x.run(3);
        // There were 13 calls up to here, and the last one asks how many were walked.
        int runs = MOST_CALLS - 13 - 1;
        for (int i = 0; i < runs; i++) {
            Checks.due("run " + i, x.run(300), 300);
        }
        Checks.due("walks", x.state(Code.WALKS), runs * 150 * 10);
    }

    /** Vector 3 is itself behind the last place, so that each step is one more fault. */
    private static void everyStepIsAFault() {
        PageGuards x = new PageGuards(1);
        x.poke(10, Code.writeControl(Code.VECTORS, 1));
        x.set(1, 4092);
        x.begin(10);
        x.run(1);
        x.begin(4095);
        for (int i = 0; i < 500; i++) {
            Checks.due("run " + i, x.run(300), 300);
        }
        Tables.dueFetchFault("at the vector", x, 7, 4095, 4095);
    }

    private static void everyCallBegins() {
        PageGuards x = new PageGuards(1);
        for (int i = 0; i < MOST_CALLS - 1; i++) {
            x.begin(i * 8 + 7);
        }
        Checks.due("PC", x.state(Code.PC), (MOST_CALLS - 2) * 8 + 7);
    }
}
