/** The edges of usurers, darks and drawn evenings: the document's Terms 4 and 5, and promises 15 to 17, 19 to 21. */
public final class RoundsEdgeTest {
    private static final Checks checks = new Checks();
    private static final int NONE = ClapBank.NONE;
    private static final int[] FAR = {Integer.MIN_VALUE, -2, -1, 1, 2, Integer.MAX_VALUE};

    public static void main(String[] args) {
        asksUpAndDown();
        leastOfSeveral();
        noBorrowers();
        rounds();
        noSuchUsurer();
        takenMost();
        standsAtOnce();
        standsLate();
        standsOfNone();
        clapsOfMinutes();
        minutesWithoutSound();
        loudestMinutes();
        emptyAndFullDarks();
        waysOfNone();
        whoseOfNone();
        whoseInTurn();
        whoseWithoutWays();
        whoseSureAndMaybe();
        drawnEvenings();
        drawnNumbers();
        drawnByThoseWhoLive();
        drawnOfNone();
        checks.finish();
    }

    private static void due(String call, long got, long want) {
        checks.due(call, got, want);
    }

    /** What one asks behind 0, 1, 2 .. rounds. */
    private static void asks(String theatre, int usurer, int... want) {
        ClapBank bank = Checks.bank(theatre, "");
        for (int n = 0; n < want.length; n++) {
            due("15: ask of " + usurer + " behind " + n + ", " + theatre, bank.ask(0, usurer, n), want[n]);
        }
    }

    private static void taken(String theatre, int usurer, int... want) {
        ClapBank bank = Checks.bank(theatre, "");
        for (int n = 0; n < want.length; n++) {
            due("16: taken by " + usurer + " behind " + n + ", " + theatre, bank.taken(0, usurer, n), want[n]);
        }
    }

    private static void asksUpAndDown() {
        asks("usurer 28 0;borrow 1;", 0, 28, 29, 30, 30, 30);
        asks("usurer 30 30;borrow 20;", 0, 30, 30, 30);
        asks("usurer 0 0;borrow 1;", 0, 0, 1, 2);
        asks("usurer 2 2;usurer 9 7;borrow 1;", 1, 9, 8, 7, 7, 7);
        asks("usurer 2 2;usurer 9 9;borrow 1;", 1, 9, 9, 9);
        asks("usurer 2 0;usurer 0 0;usurer 1 0;borrow 1;", 0, 2, 1, 0, 1);
        asks("usurer 2 0;usurer 0 0;usurer 1 0;borrow 1;", 1, 0, 1, 0, 0);
        asks("usurer 2 0;usurer 0 0;usurer 1 0;borrow 1;", 2, 1, 0, 1, 0);
    }

    private static void leastOfSeveral() {
        String four = "usurer 5 5;".repeat(4) + "borrow 3;";
        taken(four, 0, 0, 15, 15, 15 + 15);
        taken(four, 1, 0, 0, 15, 15);
        taken(four, 2, 0, 0, 0, 0);
        taken(four, 3, 0, 0, 0, 0);
        asks(four, 0, 5, 6, 5, 6);
        asks(four, 1, 5, 5, 6, 5);
        taken("usurer 5 5;usurer 4 4;usurer 4 4;borrow 1;", 1, 0, 4, 4, 8);
        taken("usurer 5 5;usurer 4 4;usurer 4 4;borrow 1;", 2, 0, 0, 4, 4);
    }

    private static void noBorrowers() {
        asks("usurer 3 1;", 0, 3, 2, 1, 1);
        asks("usurer 3 1;usurer 0 0;borrow 0;", 1, 0, 0, 0);
        taken("usurer 3 1;borrow 0;", 0, 0, 0, 0);
        taken("usurer 0 0;borrow 20;", 0, 0, 0, 20, 60);
        asks("usurer 3 1;borrow 1;", 0, 3, 4, 5);
    }

    private static void rounds() {
        ClapBank bank = Checks.bank("usurer 30 0;usurer 0 0;", "");
        int[] n = {-1, 0, 1, 29, 30, 31, 199, 200, 201};
        int[] want = {NONE, 30, 29, 1, 0, 0, 0, 0, NONE};
        for (int i = 0; i < n.length; i++) {
            due("15: behind " + n[i], bank.ask(0, 0, n[i]), want[i]);
            due("16: behind " + n[i], bank.taken(0, 0, n[i]), want[i] == NONE ? NONE : 0);
        }
        for (int far : new int[] {Integer.MIN_VALUE, -2, 202, Integer.MAX_VALUE}) {
            due("15: other rounds", bank.ask(0, 0, far), NONE);
            due("16: other rounds", bank.taken(0, 0, far), NONE);
        }
    }

    private static void noSuchUsurer() {
        ClapBank bank = Checks.bank("usurer 1 1;usurer 2 2;usurer 3 3;usurer 4 4;", "");
        int[] want = {NONE, 1, 2, 3, 4, NONE, NONE};
        for (int i = 0; i < want.length; i++) {
            due("15: usurer " + (i - 1), bank.ask(0, i - 1, 0), want[i]);
            due("16: usurer " + (i - 1), bank.taken(0, i - 1, 0), want[i] == NONE ? NONE : 0);
        }
        for (int far : FAR) {
            due("15: no such theatre", bank.ask(far, 0, 0), NONE);
            due("16: no such theatre", bank.taken(far, 0, 0), NONE);
        }
        for (int far : new int[] {Integer.MIN_VALUE, Integer.MAX_VALUE}) {
            due("15: no such usurer", bank.ask(0, far, 0), NONE);
            due("16: no such usurer", bank.taken(0, far, 0), NONE);
        }
        ClapBank none = Checks.bank("borrow 5;", "");
        due("15: no usurers", none.ask(0, 0, 0), NONE);
        due("16: no usurers", none.taken(0, 0, 0), NONE);
        due("15: no theatres", new ClapBank().ask(0, 0, 0), NONE);
        due("16: no theatres", new ClapBank().taken(0, 0, 0), NONE);
    }

    private static void takenMost() {
        ClapBank bank = Checks.bank("usurer 30 30;borrow 20;", "");
        due("16: the most", bank.taken(0, 0, 200), 20 * 30 * 200);
        due("16: the most but one round", bank.taken(0, 0, 199), 20 * 30 * 199);
        due("16: the first round's ask is the one as told", Checks.bank("usurer 7 0;borrow 1;", "").taken(0, 0, 1), 7);
    }

    private static void stands(String theatre, int round, int period) {
        ClapBank bank = Checks.bank(theatre, "");
        due("17: stands, " + theatre, bank.stands(0, 0), round);
        due("17: period, " + theatre, bank.stands(0, 1), period);
        for (int what : new int[] {-1, 2, 3, Integer.MIN_VALUE, Integer.MAX_VALUE}) {
            due("17: another what", bank.stands(0, what), NONE);
        }
    }

    private static void standsAtOnce() {
        stands("usurer 0 0;", 1, 1);
        stands("usurer 30 30;", 1, 1);
        stands("usurer 30 0;borrow 1;", 1, 1);
        stands("usurer 30 30;".repeat(4) + "borrow 20;", 1, 1);
        stands("usurer 29 29;borrow 1;", 2, 1);
        stands("usurer 5 5;usurer 5 5;borrow 1;", 3, 2);
        stands("usurer 5 4;usurer 4 4;borrow 1;", 2, 2);
    }

    /** No theatre stands later than behind round 91 (all were tried, see NOTES.md): 200 rounds are never too few. */
    private static void standsLate() {
        stands("usurer 30 0;", 31, 1);
        stands("usurer 0 0;borrow 1;", 31, 1);
        stands("usurer 1 0;usurer 30 30;borrow 1;", 30, 1);
        stands("usurer 0 0;usurer 29 29;borrow 1;", 32, 2);
        stands("usurer 30 0;usurer 30 0;usurer 30 0;borrow 1;", 90, 2);
        stands("usurer 28 0;usurer 30 0;usurer 30 0;borrow 1;", 91, 2);
        stands("usurer 30 30;usurer 30 0;usurer 30 0;usurer 29 0;borrow 20;", 91, 2);
    }

    private static void standsOfNone() {
        stands("", NONE, NONE);
        stands("borrow 20;", NONE, NONE);
        ClapBank bank = Checks.bank("usurer 0 0;", "");
        for (int far : FAR) {
            due("17: no such theatre", bank.stands(far, 0), NONE);
            due("17: no such theatre", bank.stands(far, 1), NONE);
        }
        due("17: no theatres", new ClapBank().stands(0, 0), NONE);
    }

    private static ClapBank dark(String theatre, String dark, long ways) {
        ClapBank bank = Checks.bank(theatre, "");
        due("4: " + dark, Checks.tell(bank, 2, NONE, dark), 0);
        due("19: ways of " + dark + " by " + theatre, bank.ways(0, 0), ways);
        return bank;
    }

    private static void whose(ClapBank bank, int k, int sure, int maybe) {
        due("20: sure of " + k, bank.whose(0, 0, k, false), sure);
        due("20: maybe of " + k, bank.whose(0, 0, k, true), maybe);
    }

    private static void clapsOfMinutes() {
        for (int minutes = 1; minutes <= 6; minutes++) {
            String heard = "heard 1;".repeat(minutes);
            whose(dark("palm " + minutes + " 1;", heard, 1), minutes - 1, 1, 1);
            whose(dark("palm " + (minutes - 1) + " 1;", heard, 0), 0, NONE, 0);
            dark("palm 99 1;", heard, 1);
            dark("palm " + (minutes - 1) + " 1;palm 1 1;", heard, minutes);
            dark("palm " + (minutes - 1) + " 1;palm 0 1;", heard, 0);
            dark("palm " + minutes + " 1;palm " + minutes + " 1;", heard, 1L << minutes);
        }
        dark("palm 0 1;", "heard 1;", 0);
        dark("palm 3 1;palm 3 1;", "heard 1;".repeat(6), 20);
        dark("palm 3 1;palm 4 1;", "heard 1;".repeat(6), 20 + 15);
        dark("palm 2 1;palm 2 1;palm 2 1;", "heard 1;".repeat(6), 90);
        dark("palm 4 1;palm 1 1;palm 1 1;", "heard 1;".repeat(6), 30);
        dark("palm 9 2;palm 9 1;", "heard 2;heard 2;heard 2;heard 1;heard 1;heard 1;", 1);
        dark("palm 3 2;palm 3 1;", "heard 2;heard 2;heard 2;heard 1;heard 1;heard 1;", 1);
        dark("palm 3 2;palm 2 1;", "heard 2;heard 2;heard 2;heard 1;heard 1;heard 1;", 0);
        dark("palm 2 2;palm 3 1;", "heard 2;heard 2;heard 2;heard 1;heard 1;heard 1;", 0);
        dark("palm 1 2;palm 9 1;", "heard 3;heard 0;heard 0;heard 1;heard 0;heard 1;", 1);
    }

    private static void minutesWithoutSound() {
        ClapBank bank = dark("palm 5 2;palm 5 1;", "heard 0;".repeat(6), 1);
        whose(bank, 0, 0, 0);
        whose(bank, 5, 0, 0);
        dark("", "heard 0;", 1);
        dark("", "heard 1;", 0);
        dark("palm 9 2;", "heard 1;", 0);
        dark("palm 9 2;", "heard 2;", 1);
        dark("palm 9 2;", "heard 3;", 0);
    }

    private static void loudestMinutes() {
        whose(dark("palm 1 2;".repeat(5), "heard 10;", 1), 0, 31, 31);
        dark("palm 1 2;".repeat(5), "heard 10;heard 1;", 0);
        dark("palm 1 2;".repeat(5), "heard 10;heard 10;", 0);
        dark("palm 6 2;".repeat(5), "heard 10;".repeat(6), 1);
        dark("palm 6 2;".repeat(4) + "palm 5 2;", "heard 10;".repeat(6), 0);
        dark("palm 9 2;".repeat(4) + "palm 9 1;", "heard 10;", 0);
        dark("palm 9 2;".repeat(4) + "palm 9 1;", "heard 9;", 1);
        dark("palm 9 1;".repeat(5), "heard 6;", 0);
        dark("palm 9 1;".repeat(5), "heard 5;", 1);
    }

    private static void emptyAndFullDarks() {
        whose(dark("palm 9 1;", "", 1), 0, -2, -2);
        dark("", "", 1);
        dark("palm 99 1;".repeat(5), "heard 2;".repeat(6), 1000000);
        dark("palm 6 1;".repeat(5), "heard 3;".repeat(6), 1000000);
        ClapBank full = dark("palm 99 2;palm 99 1;palm 99 1;palm 99 2;palm 99 1;", "heard 3;".repeat(6), 117649);
        for (int k = 0; k < 6; k++) {
            whose(full, k, 0, 31);
        }
    }

    private static void waysOfNone() {
        ClapBank bank = dark("palm 1 1;", "heard 1;", 1);
        for (int far : FAR) {
            due("19: no such theatre", bank.ways(far, 0), NONE);
            due("19: no such dark", bank.ways(0, far), NONE);
        }
        due("19: nothing is told", new ClapBank().ways(0, 0), NONE);
        Checks.tell(bank, 0, NONE, "palm 1 2;");
        Checks.tell(bank, 2, NONE, "heard 2;");
        long[] want = {1, 0, 0, 1};
        for (int i = 0; i < 4; i++) {
            due("19: each theatre with each dark", bank.ways(i / 2, i % 2), want[i]);
        }
    }

    private static void whoseOfNone() {
        ClapBank bank = dark("palm 6 1;", "heard 1;".repeat(6), 1);
        for (int k : new int[] {-1, -2, 6, 7, Integer.MIN_VALUE, Integer.MAX_VALUE}) {
            whose(bank, k, -2, -2);
        }
        whose(bank, 5, 1, 1);
        for (int far : FAR) {
            for (boolean maybe : new boolean[] {false, true}) {
                due("20: no such theatre", bank.whose(far, 0, 0, maybe), -2);
                due("20: no such dark", bank.whose(0, far, 0, maybe), -2);
            }
        }
        due("20: nothing is told", new ClapBank().whose(0, 0, 0, true), -2);
    }

    /** Each question is of the theatre and the dark that it names, whatever was asked ahead. */
    private static void whoseInTurn() {
        ClapBank bank = Checks.bank("palm 1 1;", "");
        Checks.tell(bank, 0, NONE, "palm 0 1;palm 1 1;palm 1 2;");
        Checks.tell(bank, 2, NONE, "heard 1;");
        Checks.tell(bank, 2, NONE, "heard 3;");
        int[] want = {1, NONE, 2, 6};
        for (int i = 0; i < 16; i++) {
            int now = i * 7 % 4;
            due("20: in turn " + now, bank.whose(now / 2, now % 2, 0, false), want[now]);
            int next = i * 5 / 3 % 4;
            due("19: in turn " + next, bank.ways(next / 2, next % 2), want[next] == NONE ? 0 : 1);
        }
    }

    private static void whoseWithoutWays() {
        ClapBank bank = dark("palm 9 1;", "heard 1;heard 2;heard 0;", 0);
        for (int k = 0; k < 3; k++) {
            whose(bank, k, NONE, 0);
        }
        whose(bank, 3, -2, -2);
        whose(dark("palm 1 1;", "heard 1;heard 1;", 0), 0, NONE, 0);
    }

    private static void whoseSureAndMaybe() {
        ClapBank one = dark("palm 1 1;palm 9 2;palm 9 1;", "heard 3;heard 1;", 3);
        whose(one, 0, 2, 7);
        whose(one, 1, 0, 5);
        ClapBank used = dark("palm 1 1;palm 0 1;palm 9 1;", "heard 2;heard 1;", 1);
        whose(used, 0, 5, 5);
        whose(used, 1, 4, 4);
        ClapBank last = dark("palm 0 1;palm 0 1;palm 0 1;palm 0 1;palm 1 2;", "heard 0;heard 2;", 1);
        whose(last, 0, 0, 0);
        whose(last, 1, 16, 16);
    }

    private static void drawnEvenings() {
        ClapBank bank = Checks.bank("palm 1 2;actor 0 7;chest 5;", "");
        int[] k = {0, 1, 19, 20};
        for (int evenings : k) {
            due("21: saved " + evenings, bank.drawn(0, 3, evenings, 10), 7 + 2 * evenings);
            due("21: chest " + evenings, bank.drawn(0, 3, evenings, 1), 5 + 2 * evenings);
            due("21: lives " + evenings, bank.drawn(0, 3, evenings, 0), 1);
        }
        for (int evenings : new int[] {-1, -2, 21, 22, Integer.MIN_VALUE, Integer.MAX_VALUE}) {
            for (int what : new int[] {0, 1, 10}) {
                due("21: other evenings", bank.drawn(0, 3, evenings, what), NONE);
            }
        }
    }

    /** Draws with numbers that have room for more than 32 bits, and cuts them: nobody is hungry here. */
    private static int[] drawBy(int seed, int evenings, int[] claps, int[] hands, int actors) {
        int[] saved = new int[actors];
        long x = seed & 0xffffffffL;
        for (int e = 0; e < evenings; e++) {
            for (int p = 0; p < claps.length; p++) {
                for (int i = 0; i < claps[p]; i++) {
                    x = (x * 1103515245L + 12345L) & 0xffffffffL;
                    saved[(int) ((x >> 16) % actors)] += hands[p];
                }
            }
        }
        return saved;
    }

    private static void drawnNumbers() {
        int[] claps = {3, 0, 99, 1, 7};
        int[] hands = {1, 2, 2, 1, 2};
        for (int actors = 1; actors <= 6; actors++) {
            String theatre = "palm 3 1;palm 0 2;palm 99 2;palm 1 1;palm 7 2;chest 0;" + "actor 0 0;".repeat(actors);
            for (int seed : new int[] {0, 1, -1, 65535, 65536, 123456789, Integer.MIN_VALUE, Integer.MAX_VALUE}) {
                ClapBank bank = Checks.bank(theatre, "");
                for (int evenings : new int[] {1, 2, 20}) {
                    int[] want = drawBy(seed, evenings, claps, hands, actors);
                    for (int a = 0; a < actors; a++) {
                        due("21: drawn by " + seed, bank.drawn(0, seed, evenings, 10 + a), want[a]);
                    }
                    due("21: chest by " + seed, bank.drawn(0, seed, evenings, 1), 216 * evenings);
                }
            }
        }
    }

    /** The first actor starves on the first night, whatever he gets: then all claps go to the other one, then to none. */
    private static void drawnByThoseWhoLive() {
        ClapBank one = Checks.bank("palm 1 1;actor 40 0;actor 0 0;chest 0;", "");
        due("21: he starves", one.drawn(0, 5, 1, 0), 2);
        int first = one.drawn(0, 5, 1, 11);
        due("21: all go to him who lives", one.drawn(0, 5, 20, 11), first + 19);
        due("21: none to him who starved", one.drawn(0, 5, 20, 10), 1 - first);
        ClapBank none = Checks.bank("palm 2 1;actor 40 0;chest 0;", "");
        due("21: before", none.drawn(0, 5, 0, 0), 1);
        for (int evenings = 1; evenings <= 20; evenings++) {
            due("21: nobody lives", none.drawn(0, 5, evenings, 0), 0);
            due("21: nobody is clapped", none.drawn(0, 5, evenings, 1), 2);
            due("21: nobody saves", none.drawn(0, 5, evenings, 10), 2);
        }
        ClapBank rate = Checks.bank("actor 10 110;rate 50;chest 15;", "");
        due("21: a night", rate.drawn(0, 9, 1, 10), 150);
        due("21: the chest is empty", rate.drawn(0, 9, 2, 0), 0);
        due("21: both stay", rate.drawn(0, 9, 20, 10), 150);
        due("21: both stay", rate.drawn(0, 9, 20, 1), 5);
        due("21: no actors", Checks.bank("palm 99 2;", "").drawn(0, 5, 20, 0), 0);
        due("21: no actors", Checks.bank("palm 99 2;", "").drawn(0, 5, 20, 1), 999);
        due("21: no echo", Checks.bank("palm 99 2;actor 0 400;chest 999;", "").drawn(0, 5, 20, 10), 400 + 198 * 20);
    }

    private static void drawnOfNone() {
        ClapBank bank = Checks.bank("actor 0 1;actor 0 2;actor 0 3;actor 0 4;actor 0 5;actor 0 6;chest 8;", "");
        for (int what = -12; what < 40; what++) {
            int want = what == 0 ? 63 : what == 1 ? 8 : what >= 10 && what < 16 ? what - 9 : NONE;
            due("21: what " + what, bank.drawn(0, 1, 20, what), want);
        }
        due("21: another what", bank.drawn(0, 1, 20, Integer.MIN_VALUE), NONE);
        due("21: another what", bank.drawn(0, 1, 20, Integer.MAX_VALUE), NONE);
        for (int far : FAR) {
            for (int what : new int[] {0, 1, 10}) {
                due("21: no such theatre", bank.drawn(far, 1, 1, what), NONE);
            }
        }
        ClapBank one = Checks.bank("actor 0 1;", "");
        due("21: the only one", one.drawn(0, 1, 1, 10), 1);
        due("21: no such actor", one.drawn(0, 1, 1, 11), NONE);
        due("21: no theatres", new ClapBank().drawn(0, 1, 1, 0), NONE);
    }
}
