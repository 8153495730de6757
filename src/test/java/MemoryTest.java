/** Promises 2, 3 and 8: poke, fill and word. */
public final class MemoryTest {
    private static final int[] NO_PLACES = {-1, 512, 513, 4096, Integer.MIN_VALUE, Integer.MAX_VALUE};

    public static void main(String[] args) {
        pokeAnswersWhatWas();
        pokeKeepsToItsPlace();
        everyPlaceIsItsOwn();
        wordsHave32Bits();
        pokeNeedsAPlace();
        fillLaysFourWords();
        everyBitOfAFillHasItsWord();
        fillTakesEveryPlaceUpTo508();
        fillNeedsFourPlaces();
        wordNeedsAPlace();
        Checks.finish();
    }

    private static void pokeAnswersWhatWas() {
        PageGuards x = new PageGuards(1);
        Checks.due("poke(0, -5)", x.poke(0, -5), 0);
        Checks.due("poke(0, 6)", x.poke(0, 6), -5);
        Checks.due("word(0)", x.word(0), 6);
        Checks.due("poke(511, min)", x.poke(511, Integer.MIN_VALUE), 0);
        Checks.due("word(511)", x.word(511), Integer.MIN_VALUE);
    }

    private static void pokeKeepsToItsPlace() {
        PageGuards x = new PageGuards(1);
        for (int place = 0; place < 400; place++) {
            x.poke(place, place * 7 + 1);
        }
        for (int place = 0; place < 100; place++) {
            Checks.due("word(" + place * 4 + ")", x.word(place * 4), place * 28 + 1);
        }
        Checks.due("word(400)", x.word(400), 0);
    }

    /** "MEMORY has 512 words .. at PLACES 0 .. 511", filled by four and read in two halves. */
    private static void everyPlaceIsItsOwn() {
        for (int half = 0; half < 2; half++) {
            PageGuards x = new PageGuards(1);
            for (int place = 0; place < 512; place += 4) {
                long four = 0x0003_0002_0001_0000L + 0x0001_0001_0001_0001L * place;
                Checks.due("fill(" + place + ")", x.fill(place, four, ~four), true);
            }
            for (int place = half * 256; place < half * 256 + 256; place++) {
                Checks.due("word(" + place + ")", x.word(place), place | ~place << 16);
            }
        }
    }

    /** "of 32 bits": each of them is kept. */
    private static void wordsHave32Bits() {
        PageGuards x = new PageGuards(1);
        int before = 0;
        for (int bit = 0; bit < 32; bit++) {
            Checks.due("poke of bit " + bit, x.poke(7, 1 << bit), before);
            before = 1 << bit;
            Checks.due("word of bit " + bit, x.word(7), before);
        }
        x.poke(7, -1);
        Checks.due("word of all bits", x.word(7), -1);
    }

    private static void pokeNeedsAPlace() {
        PageGuards x = new PageGuards(1);
        x.poke(0, 9);
        x.poke(511, 9);
        for (int place : NO_PLACES) {
            Checks.due("poke(" + place + ", 1)", x.poke(place, 1), 0);
        }
        Checks.due("word(0)", x.word(0), 9);
        Checks.due("word(511)", x.word(511), 9);
        Checks.due("word(1)", x.word(1), 0);
    }

    private static void fillLaysFourWords() {
        PageGuards x = new PageGuards(1);
        x.poke(9, 1);
        x.poke(14, 1);
        Checks.due("fill(10)", x.fill(10, 0x8444733362225111L, 0xFDDD7CCC6BBB5AAAL), true);
        Checks.due("word(9)", x.word(9), 1);
        Checks.due("word(10)", x.word(10), 0x5AAA5111);
        Checks.due("word(11)", x.word(11), 0x6BBB6222);
        Checks.due("word(12)", x.word(12), 0x7CCC7333);
        Checks.due("word(13)", x.word(13), 0xFDDD8444);
        Checks.due("word(14)", x.word(14), 1);
        Checks.due("fill(0)", x.fill(0, -1L, 0L), true);
        Checks.due("word(0)", x.word(0), 0xFFFF);
        Checks.due("word(3)", x.word(3), 0xFFFF);
        Checks.due("fill(0) again", x.fill(0, 0L, -1L), true);
        Checks.due("word(0) again", x.word(0), 0xFFFF0000);
        Checks.due("word(3) again", x.word(3), 0xFFFF0000);
        Checks.due("fill(508)", x.fill(508, 0x0004000300020001L, 0L), true);
        Checks.due("word(511)", x.word(511), 4);
    }

    /** "word k has bits 16 * k .. of low as its lowest 16, those of high as its highest 16". */
    private static void everyBitOfAFillHasItsWord() {
        for (int bit = 0; bit < 64; bit++) {
            for (int half = 0; half < 2; half++) {
                PageGuards x = new PageGuards(1);
                x.poke(100, -1);
                x.fill(100, half == 0 ? 1L << bit : 0, half == 1 ? 1L << bit : 0);
                for (int k = 0; k < 4; k++) {
                    int want = k == bit / 16 ? 1 << bit % 16 + 16 * half : 0;
                    Checks.due("word " + k + " of bit " + bit + " in half " + half, x.word(100 + k), want);
                }
            }
        }
    }

    private static void fillTakesEveryPlaceUpTo508() {
        for (int place = 0; place <= 508; place++) {
            PageGuards x = new PageGuards(1);
            Checks.due("fill(" + place + ")", x.fill(place, -1L, 0L), true);
            for (int near = -1; near < 5; near++) {
                boolean there = place + near >= 0 && place + near < 512;
                int want = !there ? -1 : near >= 0 && near < 4 ? 0xFFFF : 0;
                Checks.due("word(" + (place + near) + ")", x.word(place + near), want);
            }
        }
    }

    private static void fillNeedsFourPlaces() {
        int[] starts = {-4, -3, -1, 509, 510, 511, 512, Integer.MIN_VALUE, Integer.MAX_VALUE, Integer.MAX_VALUE - 3};
        PageGuards x = new PageGuards(1);
        for (int place : starts) {
            Checks.due("fill(" + place + ")", x.fill(place, -1L, -1L), false);
        }
        for (int place = 0; place < 4; place++) {
            Checks.due("word(" + place + ")", x.word(place), 0);
            Checks.due("word(" + (511 - place) + ")", x.word(511 - place), 0);
        }
    }

    private static void wordNeedsAPlace() {
        PageGuards x = new PageGuards(1);
        for (int place : NO_PLACES) {
            Checks.due("word(" + place + ")", x.word(place), -1);
        }
        Checks.due("word(511)", x.word(511), 0);
        Checks.due("word(0)", x.word(0), 0);
    }
}
