/** The two examples of README.md, with the answers that it tells. */
public final class ReadmeTest {
    public static void main(String[] args) {
        aProgram();
        tables();
        Checks.finish();
    }

    private static void aProgram() {
        PageGuards x = new PageGuards(1);
        x.poke(10, 0 << 27 | 1 << 24 | 7);
        x.poke(11, 27 << 27);
        x.begin(10);
        Checks.due("run(300)", x.run(300), 2);
        Checks.due("state(1)", x.state(1), 7);
    }

    private static void tables() {
        PageGuards x = new PageGuards(1);
        x.poke(256, 0 << 8 | 3 << 4 | 2);
        x.poke(257, 272 << 8 | 1);
        x.poke(272, 320 << 8 | 3 << 4 | 2);
        x.poke(325, 4711);
        x.poke(4, 27 << 27);
        x.poke(20, 23 << 27 | 1 << 21 | 1);
        x.poke(21, 23 << 27 | 2 << 21 | 4);
        x.poke(22, 23 << 27 | 2 << 21 | 0);
        x.poke(23, 11 << 27 | 3 << 24 | 1 << 21 | 5);
        x.poke(24, 11 << 27 | 4 << 24 | 1 << 21 | 16);
        x.set(1, 256);
        x.set(2, 1);
        x.begin(20);
        Checks.due("run(4)", x.run(4), 4);
        Checks.due("state(3)", x.state(3), 4711);
        Checks.due("state(13)", x.state(13), 2);
        Checks.due("entry(1, 2)", x.entry(1, 2), 320);
        Checks.due("run(300)", x.run(300), 2);
        Checks.due("state(8)", x.state(8), 4);
        Checks.due("state(9)", x.state(9), 26);
        Checks.due("state(7)", x.state(7), 24);
        Checks.due("state(26)", x.state(26), 2);
        Checks.due("state(27)", x.state(27), 272);
    }
}
