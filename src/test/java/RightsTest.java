/** Promise 7: who may use what, by RIGHTS, NO FETCH and DOMAINS, in every mode. */
public final class RightsTest {
    private static final int READ = 0;
    private static final int WRITE = 1;
    private static final int FETCH = 2;
    private static final int ADDRESS = 5 * 256 + 3;
    private static final int PLACE = 320 + 3;

    // What USER may by RIGHTS 0 .. 3, and what the other modes may: read, write, fetch.
    private static final String[] OF_USER = {"---", "---", "r-f", "rwf"};
    private static final String[] OF_OTHERS = {"---", "rwf", "rwf", "rwf"};

    public static void main(String[] args) {
        for (int mode = 0; mode < 6; mode++) {
            for (int use = READ; use <= FETCH; use++) {
                everyEntry(mode, use);
            }
        }
        everyDomainHasItsOwnBits();
        domainsCountAsTheyAreNow();
        modesCountAsTheyAreNow();
        manyAreReadAndWrittenByTheSameRights();
        Checks.finish();
    }

    private static void everyEntry(int mode, int use) {
        for (int access = 0; access < 4; access++) {
            for (int rights = 0; rights < 4; rights++) {
                for (int noFetch = 0; noFetch < 2; noFetch++) {
                    for (int words : new int[] {256, 64, 16}) {
                        oneUse(mode, use, access, rights, noFetch == 1, words);
                    }
                }
            }
        }
    }

    private static void oneUse(int mode, int use, int access, int rights, boolean noFetch, int words) {
        PageGuards x = laid(access, rights, noFetch, words);
        Code.status(x, mode);
        int place = words == 256 ? 256 + 3 : PLACE;
        x.poke(place, Code.let(0, 1234));
        int want = wantedState(mode, use, access, rights, noFetch, words == 256);
        String what = "mode " + mode + " use " + use + " access " + access + " rights " + rights
                + (noFetch ? " no fetch" : "") + " words " + words;
        if (use == FETCH) {
            Tables.fetch(x, ADDRESS);
        } else if (use == WRITE) {
            Tables.write(x, ADDRESS, 77);
        } else {
            Tables.read(x, ADDRESS);
        }
        Checks.due(what + ": entries", x.state(Code.ENTRIES), 2);
        if (want == 0) {
            Checks.due(what + ": mode", x.state(Code.STATUS), mode);
            int got = use == WRITE ? x.word(place) : x.state(0);
            Checks.due(what, got, use == FETCH ? 1234 : use == WRITE ? 77 : Code.let(0, 1234));
        } else if (use == FETCH) {
            Tables.dueFetchFault(what, x, want, ADDRESS);
            Checks.due(what + ": R0", x.state(0), 0);
        } else {
            Tables.dueDataFault(what, x, want, ADDRESS);
            Checks.due(what + ": word", x.word(place), Code.let(0, 1234));
        }
    }

    private static PageGuards laid(int access, int rights, boolean noFetch, int words) {
        PageGuards x = Tables.on(1, access << 2);
        int bits = noFetch ? Tables.NO_FETCH : 0;
        if (words == 256) {
            // The TABLE lies in this section, too: what is used there is its word for page 3.
            x.poke(Tables.FIRST_TABLE + 5, Tables.section(256, 1, rights) | bits);
        } else {
            x.poke(Tables.FIRST_TABLE + 5, Tables.second(300, 1));
            x.poke(300, (words == 64 ? Tables.large(320, rights) : Tables.small(320, rights)) | bits);
        }
        return x;
    }

    private static int wantedState(int mode, int use, int access, int rights, boolean noFetch, boolean section) {
        if (access == 3) {
            return 0;
        }
        if (access != 1) {
            return section ? 3 : 4;
        }
        String may = (mode == Code.USER ? OF_USER : OF_OTHERS)[rights];
        boolean allowed = may.charAt(use) != '-' && !(use == FETCH && noFetch);
        return allowed ? 0 : section ? 5 : 6;
    }

    private static void everyDomainHasItsOwnBits() {
        for (int open = 0; open < 3; open++) {
            for (int domain = 0; domain < 3; domain++) {
                PageGuards x = Tables.on(1, 1 << 2 * open);
                x.poke(Tables.FIRST_TABLE + 5, Tables.section(256, domain, 3));
                Tables.read(x, ADDRESS);
                Checks.due("domain " + domain + " with " + open + " open", x.state(26), open == domain ? 0 : 3);
            }
        }
    }

    private static void domainsCountAsTheyAreNow() {
        PageGuards x = laid(1, 0, true, 16);
        Tables.read(x, ADDRESS);
        Tables.dueDataFault("by RIGHTS", x, 6, ADDRESS);
        Code.control(x, Code.DOMAINS, Tables.OPEN_CODE_DOMAIN | 2 << 2);
        Tables.read(x, ADDRESS);
        Checks.due("STATE with 2", x.state(26), 4);
        Code.control(x, Code.DOMAINS, Tables.OPEN_CODE_DOMAIN | 3 << 2);
        x.poke(PLACE, 808);
        Tables.read(x, ADDRESS);
        Checks.due("R0 with 3", x.state(0), 808);
        Checks.due("walks", x.state(Code.WALKS), 2);
    }

    private static void modesCountAsTheyAreNow() {
        PageGuards x = laid(1, 1, false, 64);
        x.poke(PLACE, 909);
        Tables.read(x, ADDRESS);
        Checks.due("R0", x.state(0), 909);
        Code.status(x, Code.USER);
        Tables.read(x, ADDRESS);
        Tables.dueDataFault("in USER", x, 6, ADDRESS);
        Checks.due("walks", x.state(Code.WALKS), 2);
    }

    private static void manyAreReadAndWrittenByTheSameRights() {
        for (int mode = 0; mode < 6; mode++) {
            for (int rights = 0; rights < 4; rights++) {
                manyBy(mode, rights, READ);
                manyBy(mode, rights, WRITE);
            }
        }
    }

    private static void manyBy(int mode, int rights, int use) {
        PageGuards x = laid(1, rights, false, 16);
        Code.status(x, mode);
        x.poke(PLACE, 31);
        x.set(0, 32);
        x.set(3, use == READ ? ADDRESS : ADDRESS + 1);
        Code.exec(x, use == READ ? Code.loadMany(3, 1) : Code.storeMany(3, 1));
        String what = "many in mode " + mode + " by RIGHTS " + rights + " for use " + use;
        if (wantedState(mode, use, 1, rights, false, false) != 0) {
            Tables.dueDataFault(what, x, 6, ADDRESS);
            Checks.due(what + ": R0", x.state(0), 32);
            Checks.due(what + ": word", x.word(PLACE), 31);
        } else {
            Checks.due(what + ": STATUS", x.state(Code.STATUS), mode);
            Checks.due(what, use == READ ? x.state(0) : x.word(PLACE), use == READ ? 31 : 32);
        }
    }
}
