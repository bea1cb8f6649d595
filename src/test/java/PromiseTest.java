/** Each promise by cases made by hand: ordinary ones, the edges that the document names, and wrong inputs. */
public final class PromiseTest {
    private static final Checks checks = new Checks();
    private static final int NONE = ClapBank.NONE;
    private static final String HOUSE = "palm 5 2;palm 4 1;palm 0 2;actor 10 6;actor 4 20;actor 7 0;"
        + "rate 10;chest 30;usurer 5 3;usurer 4 4;borrow 2;";
    private static final String EVENING = "clap 0 0 2;clap 1 0 1;lend 0 2 2;clap 2 2 1;hush 1 1 5;encore;"
        + "storm 2 1;repay 2 0 1;night;clap 1 2 2;";

    public static void main(String[] args) {
        newObject();
        feedAndEnd();
        texts();
        faults();
        theatres();
        deeds();
        stops();
        states();
        palms();
        actors();
        runs();
        feasts();
        fairs();
        usurers();
        darks();
        drawn();
        looks();
        silences();
        images();
        wildArguments();
        checks.finish();
    }

    private static void due(String call, long got, long want) {
        checks.due(call, got, want);
    }

    private static void newObject() {
        ClapBank bank = new ClapBank();
        due("NONE", NONE, -1);
        for (int sort = 0; sort < 3; sort++) {
            due("1: count", bank.count(sort), 0);
        }
        due("24: count of another sort", bank.count(3), -2);
        due("24: count of another sort", bank.count(-1), -2);
        due("5: fault at first", bank.fault(0), 0);
        due("5: place at first", bank.fault(1), NONE);
        for (int k = -1; k < 4; k++) {
            checks.due("1: again", bank.again(k), false);
        }
    }

    private static void feedAndEnd() {
        ClapBank bank = new ClapBank();
        for (int i = 1; i <= 30; i++) {
            due("2: feed " + i, bank.feed(0x20202020, 0x20202020, 0x20202020, 0x20202020, 0x20202020), 20 * i);
        }
        due("2: feed beyond 600", bank.feed(0, 0, 0, 0, 0), NONE);
        due("3: end 600", bank.end(600), 600);
        due("3: end 601", bank.end(601), NONE);
        due("3: end -1", bank.end(-1), NONE);
        due("3: end 581", bank.end(581), 581);
        due("2: feed beyond 600", bank.feed(0, 0, 0, 0, 0), NONE);
        due("3: end 580", bank.end(580), 580);
        due("2: feed", bank.feed(0x6e696768, 0x743b0a0a, 0x656e636f, 0x72653b0a, 0x0a0a0a0a), 600);
        due("4: the highest byte is the first", bank.text(1, NONE), 0);
        due("4: two deeds", bank.deed(0, NONE, 0), 2);
        due("4: the tape is empty", bank.end(1), NONE);
        due("3: end 0", bank.end(0), 0);
        bank.feed(0, 0, 0, 0, 0xff);
        due("3: end 19", bank.end(19), 19);
        due("3: end 20", bank.end(20), NONE);
    }

    private static void texts() {
        ClapBank bank = new ClapBank();
        String[] one = {"rate 1;", "encore;", "heard 1;"};
        String[] two = {"rate 2;", "night;encore;", "heard 2;heard 2;"};
        for (int sort = 0; sort < 3; sort++) {
            due("4: none to replace", Checks.tell(bank, sort, 0, one[sort]), -2);
            due("4: taken, if there is none to replace", bank.end(1), NONE);
            due("4: first", Checks.tell(bank, sort, NONE, one[sort]), 0);
            due("4: none to replace", Checks.tell(bank, sort, 1, one[sort]), -2);
            due("4: second", Checks.tell(bank, sort, NONE, ""), 1);
            due("24: count", bank.count(sort), 2);
            due("4: no third", Checks.tell(bank, sort, NONE, one[sort]), -2);
            due("4: taken, if there are as many as may be", bank.end(1), NONE);
            due("4: replaced", Checks.tell(bank, sort, 0, two[sort]), 0);
            due("4: replaced", Checks.tell(bank, sort, 1, one[sort]), 1);
            due("4: a fault", Checks.tell(bank, sort, 1, "#"), NONE);
            due("4: taken all the same", bank.end(1), NONE);
            due("4: wrong place", Checks.tell(bank, sort, -2, one[sort]), -2);
            due("4: taken at a wrong place", bank.end(1), NONE);
            due("5: no text, no fault", bank.fault(0), 0);
            due("5: no text, no place", bank.fault(1), NONE);
            due("24: count", bank.count(sort), 2);
        }
        for (int sort : new int[] {3, -1}) {
            Checks.tape(bank, "night;");
            due("4: no such sort", bank.text(sort, NONE), -2);
            due("4: taken as no such sort", bank.feed(0, 0, 0, 0, 0), 20);
        }
        due("4: first theatre", bank.theatre(0, 2), 2);
        due("4: a fault changes nothing", bank.theatre(1, 2), 1);
        due("4: first book", bank.deed(0, NONE, 0), 2);
        due("4: second book", bank.deed(1, NONE, 0), 1);
        due("4: first dark", bank.heard(0, NONE), 2);
        due("4: second dark", bank.heard(1, NONE), 1);
    }

    private static void faults() {
        fault(0, "", 0, NONE);
        fault(0, " \n ", 0, NONE);
        fault(0, "palm1 2;palm\n099\n01 ;", 0, NONE);
        fault(0, "palm 5 2", 1, 8);
        fault(0, "palm 5 2  ", 1, 10);
        fault(0, "palm ;", 1, 5);
        fault(0, "palms 1 1;", 1, 0);
        fault(0, "palmz 1 1;", 1, 0);
        fault(0, "pal", 1, 0);
        fault(0, "Palm 1 1;", 1, 0);
        fault(0, "palm 1 1;;", 1, 9);
        fault(0, "palm 1 1;1", 1, 9);
        fault(0, "palm 1 1 1;", 1, 9);
        fault(0, "palm 1 -1;", 1, 7);
        fault(0, "palm 1\t1;", 1, 6);
        fault(0, "chest 1000;", 1, 6);
        fault(0, "chest 0001;", 1, 6);
        fault(0, "chest 1 000;", 1, 8);
        fault(0, "night;", 1, 0);
        fault(0, "palm 100 1;rate x;", 1, 16);
        fault(0, "palm 100 1;", 2, 5);
        fault(0, "palm 1 3;", 2, 7);
        fault(0, "palm 1 0;", 2, 7);
        fault(0, "actor 41 0;", 2, 6);
        fault(0, "actor 0 401;", 2, 8);
        fault(0, "actor 40 400;rate 50;chest 999;borrow 20;usurer 30 30;", 0, NONE);
        fault(0, "usurer 31 0;", 2, 7);
        fault(0, "usurer 3 4;", 2, 9);
        fault(0, "rate 51;", 2, 5);
        fault(0, "borrow 21;", 2, 7);
        fault(0, "palm 1 1;".repeat(5), 0, NONE);
        fault(0, "palm 1 1;".repeat(6), 3, 45);
        fault(0, "palm 1 1;".repeat(5) + "palm 100 1;", 3, 45);
        fault(0, "palm 1 1;".repeat(4) + "palm 100 1;palm 1 1;", 2, 41);
        fault(0, "actor 0 0;".repeat(6), 0, NONE);
        fault(0, "actor 0 0;".repeat(7), 3, 60);
        fault(0, "usurer 0 0;".repeat(4), 0, NONE);
        fault(0, "usurer 0 0;".repeat(5), 3, 44);
        fault(0, "rate 1;".repeat(20), 0, NONE);
        fault(1, "clap 5 0 1;", 2, 5);
        fault(1, "clap 0 6 1;", 2, 7);
        fault(1, "clap 0 0 0;", 2, 9);
        fault(1, "clap 4 5 99;lend 4 3 99;repay 0 4 1;hush 5 4 99;storm 5 99;", 0, NONE);
        fault(1, "clap 0 0 100;", 2, 9);
        fault(1, "lend 1 1 1;", 2, 7);
        fault(1, "repay 2 2 1;", 2, 8);
        fault(1, "hush 6 0 1;", 2, 5);
        fault(1, "hush 0 5 1;", 2, 7);
        fault(1, "storm 0 100;", 2, 8);
        fault(1, "storm 0 0;", 2, 8);
        fault(1, "encore 1;", 1, 7);
        fault(1, "clap 0 0;", 1, 8);
        fault(1, "night;".repeat(30), 0, NONE);
        fault(1, "night;".repeat(31), 3, 180);
        fault(1, "night;".repeat(31) + "nigh", 1, 186);
        fault(2, "heard 10;heard 0;", 0, NONE);
        fault(2, "heard 11;", 2, 6);
        fault(2, "heard 0;".repeat(6), 0, NONE);
        fault(2, "heard 0;".repeat(7), 3, 48);
        fault(2, "\u00e8", 1, 0);
        ClapBank bank = new ClapBank();
        Checks.tell(bank, 0, NONE, "x");
        due("5: another what", bank.fault(2), NONE);
        due("5: another what", bank.fault(-1), NONE);
    }

    private static void fault(int sort, String text, int fault, int place) {
        checks.fault(sort, text, fault, place);
    }

    private static void theatres() {
        ClapBank bank = Checks.bank(HOUSE, "");
        int[][] want = {{0, 3}, {1, 3}, {2, 10}, {3, 30}, {4, 2}, {5, 2}, {6, NONE}, {9, NONE}, {10, 5}, {11, 4}, {12, 0},
            {13, NONE}, {20, 2}, {21, 1}, {22, 2}, {23, NONE}, {30, 10}, {32, 7}, {33, NONE}, {40, 6}, {41, 20}, {42, 0},
            {50, 5}, {51, 4}, {52, NONE}, {60, 3}, {61, 4}, {62, NONE}, {70, NONE}, {-1, NONE}, {-10, NONE}};
        for (int[] pair : want) {
            due("6: theatre " + pair[0], bank.theatre(0, pair[0]), pair[1]);
        }
        due("6: none such", bank.theatre(1, 0), NONE);
        due("6: none such", bank.theatre(-1, 0), NONE);
        Checks.tell(bank, 0, NONE, "");
        due("6: rate at first", bank.theatre(1, 2), 0);
        due("6: chest at first", bank.theatre(1, 3), 999);
        due("6: borrowers at first", bank.theatre(1, 5), 0);
        Checks.tell(bank, 0, 1, "rate 4;chest 8;borrow 9;palm 3 1;rate 5;borrow 0;palm 4 2;chest 7;");
        due("6: the later rate", bank.theatre(1, 2), 5);
        due("6: the later chest", bank.theatre(1, 3), 7);
        due("6: the later borrowers", bank.theatre(1, 5), 0);
        due("6: a further palm", bank.theatre(1, 0), 2);
        due("6: the first palm stays", bank.theatre(1, 10), 3);
    }

    private static void deeds() {
        ClapBank bank = Checks.bank(HOUSE, EVENING);
        int[][] want = {{0, 0, 0, 2}, {0, 1, 0, 1}, {1, 0, 2, 2}, {0, 2, 2, 1}, {3, 1, 1, 5}, {5, NONE, NONE, NONE},
            {4, 2, 1, NONE}, {2, 2, 0, 1}, {6, NONE, NONE, NONE}, {0, 1, 2, 2}};
        due("7: how many", bank.deed(0, NONE, 0), 10);
        due("7: how many of what", bank.deed(0, NONE, 1), -2);
        for (int k = 0; k < 10; k++) {
            for (int what = 0; what < 4; what++) {
                due("7: deed " + k + " " + what, bank.deed(0, k, what), want[k][what]);
            }
            due("7: another what", bank.deed(0, k, 4), -2);
            due("7: another what", bank.deed(0, k, -1), -2);
        }
        due("7: none such", bank.deed(0, 10, 0), -2);
        due("7: none such", bank.deed(0, -2, 0), -2);
        due("7: none such", bank.deed(1, 0, 0), -2);
        due("7: none such", bank.deed(1, NONE, 0), -2);
    }

    private static void stop(String theatre, String book, int want) {
        due("8: stop " + theatre + " / " + book, Checks.bank(theatre, book).stop(0, 0), want);
    }

    private static void stops() {
        stop(HOUSE, EVENING, 9);
        stop(HOUSE, "", 0);
        stop("", "encore;night;clap 0 0 1;", 2);
        String two = "palm 5 1;palm 5 1;actor 1 10;";
        stop(two, "hush 0 0 1;lend 0 1 1;", 1);
        stop(two, "hush 0 0 1;lend 1 0 1;", 2);
        stop(two, "hush 0 0 1;clap 0 0 1;", 1);
        stop(two, "hush 0 0 1;hush 0 0 1;night;clap 0 0 1;", 4);
        stop(two, "lend 1 0 2;hush 0 0 1;repay 0 1 1;", 2);
        stop(two, "lend 1 0 2;hush 0 1 1;repay 0 1 1;", 3);
        stop(two, "lend 1 0 2;repay 1 0 1;", 1);
        stop(two, "lend 1 0 2;repay 0 1 3;", 1);
        stop(two, "lend 1 0 2;repay 0 1 2;repay 0 1 1;", 2);
        stop(two, "lend 1 0 2;clap 0 0 7;", 2);
        stop(two, "lend 1 0 2;clap 1 0 4;", 1);
        stop(two, "lend 0 2 1;", 0);
        stop(two, "lend 2 0 1;", 0);
        stop(two, "clap 0 0 6;", 0);
        stop(two, "clap 0 0 5;clap 0 0 1;", 1);
        stop(two, "clap 0 1 1;", 0);
        stop(two, "clap 2 0 1;", 0);
        stop(two, "storm 1 1;", 0);
        stop(two, "hush 1 0 1;", 0);
        stop(two, "hush 0 2 1;", 0);
        stop(two, "hush 0 0 11;", 0);
        stop(two, "hush 0 0 10;", 1);
        stop(two + "chest 9;", "hush 0 0 10;", 0);
        stop(two + "chest 9;", "hush 0 0 9;", 1);
        stop("palm 5 1;actor 1 0;", "night;clap 0 0 1;", 1);
        stop("palm 5 1;actor 1 0;", "night;storm 0 1;", 1);
        stop("palm 5 1;actor 5 4;", "night;hush 0 0 1;", 1);
        ClapBank bank = Checks.bank(HOUSE, EVENING);
        due("8: none such", bank.stop(1, 0), NONE);
        due("8: none such", bank.stop(0, 1), NONE);
        due("8: none such", bank.stop(-1, -1), NONE);
    }

    private static void states() {
        ClapBank bank = Checks.bank(HOUSE, EVENING);
        int[][] want = {
            {30, 0, 0, 7, 0, 26, 0}, {34, 0, 0, 7, 0, 30, 2}, {36, 0, 0, 7, 0, 32, 3}, {36, 0, 0, 7, 0, 32, 3},
            {38, 0, 0, 7, 0, 34, 4}, {33, 0, 0, 7, 2, 29, 4}, {33, 1, 0, 7, 2, 29, 4}, {35, 1, 0, 7, 2, 31, 4},
            {35, 1, 0, 7, 2, 31, 4}, {20, 1, 1, 3, 0, 13, 4}};
        for (int n = 0; n < want.length; n++) {
            for (int what = 0; what < 7; what++) {
                due("9: state " + n + " " + what, bank.state(0, 0, n, what), want[n][what]);
            }
            due("9: another what", bank.state(0, 0, n, 7), -2);
            due("9: another what", bank.state(0, 0, n, -1), -2);
        }
        due("9: behind the stop", bank.state(0, 0, 10, 0), -2);
        due("9: no such n", bank.state(0, 0, -1, 0), -2);
        due("9: none such", bank.state(1, 0, 0, 0), -2);
        due("9: none such", bank.state(0, 1, 0, 0), -2);
        ClapBank echoes = Checks.bank("palm 9 2;palm 9 1;actor 0 0;actor 0 0;chest 0;",
            "clap 0 0 1;clap 0 0 1;clap 1 0 1;clap 1 1 1;clap 1 0 1;storm 0 1;clap 1 0 1;encore;clap 1 0 1;");
        int[] chest = {0, 2, 6, 8, 9, 10, 12, 13, 13, 14};
        for (int n = 0; n < chest.length; n++) {
            due("9: echo " + n, echoes.state(0, 0, n, 0), chest[n]);
        }
        ClapBank rich = Checks.bank("actor 0 400;actor 0 400;rate 50;chest 0;", "night;".repeat(30));
        due("9: no overflow", rich.actor(0, 0, 30, 0, 0), 76672806);
        due("9: all saved", rich.state(0, 0, 30, 5), 153345612);
        due("9: nor by nights to come", rich.actor(0, 0, 30, 0, 5), 99);
        due("9: nor for the star", rich.actor(0, 0, 30, 0, 6), 99);
        ClapBank tenths = Checks.bank("actor 7 100;actor 19 100;", "encore;encore;encore;night;");
        due("9: tenths together cut", tenths.state(0, 0, 4, 0), 999 - 9 - 24);
    }

    private static void palms() {
        ClapBank bank = Checks.bank(HOUSE, EVENING);
        due("10: left", bank.palm(0, 0, 0, 0, 0), 5);
        due("10: left", bank.palm(0, 0, 3, 0, 0), 1);
        due("10: lent", bank.palm(0, 0, 3, 2, 0), 2);
        due("10: owes", bank.palm(0, 0, 3, 2, 10), 2);
        due("10: is owed", bank.palm(0, 0, 3, 0, 12), 0);
        due("10: repaid", bank.palm(0, 0, 8, 2, 10), 1);
        due("10: repaid", bank.palm(0, 0, 8, 0, 0), 2);
        due("10: a new night", bank.palm(0, 0, 9, 0, 0), 5);
        due("10: still owes", bank.palm(0, 0, 9, 2, 10), 1);
        due("10: got", bank.palm(0, 0, 9, 0, 20), 4);
        due("10: got by echo", bank.palm(0, 0, 9, 1, 20), 2);
        due("10: got", bank.palm(0, 0, 9, 2, 22), 2);
        due("10: got none", bank.palm(0, 0, 9, 2, 21), 0);
        due("10: himself is not another one", bank.palm(0, 0, 3, 2, 12), -2);
        due("10: none such", bank.palm(0, 0, 3, 2, 13), -2);
        due("10: none such", bank.palm(0, 0, 3, 2, 23), -2);
        due("10: none such", bank.palm(0, 0, 3, 3, 0), -2);
        due("10: none such", bank.palm(0, 0, 3, -1, 0), -2);
        due("10: none such", bank.palm(0, 0, 10, 0, 0), -2);
        due("10: another what", bank.palm(0, 0, 3, 0, 1), -2);
        due("10: another what", bank.palm(0, 0, 3, 0, -1), -2);
        due("10: another what", bank.palm(0, 0, 3, 0, 30), -2);
        ClapBank loans = Checks.bank("palm 20 1;palm 20 1;palm 20 1;rate 10;", "lend 0 1 9;lend 2 1 19;night;night;");
        due("10: below ten nothing grows", loans.palm(0, 0, 3, 1, 10), 9);
        due("10: each by itself", loans.palm(0, 0, 3, 1, 12), 20);
        due("10: and again", loans.palm(0, 0, 4, 1, 12), 22);
    }

    private static void actors() {
        ClapBank bank = Checks.bank(HOUSE, EVENING);
        int[][] behindNight = {{1, 1, 11, 10, NONE, 0, 0, 0}, {12, 1, 4, 0, NONE, 3, 3, 0}, {4, 0, 0, 0, 0, 0, 0, 2}};
        for (int a = 0; a < 3; a++) {
            for (int what = 0; what < 8; what++) {
                due("11: actor " + a + " " + what, bank.actor(0, 0, 9, a, what), behindNight[a][what]);
            }
            due("11: another what", bank.actor(0, 0, 9, a, 8), -2);
            due("11: another what", bank.actor(0, 0, 9, a, -1), -2);
        }
        due("11: need", bank.actor(0, 0, 8, 2, 3), 3);
        due("11: none such", bank.actor(0, 0, 9, 3, 0), -2);
        due("11: none such", bank.actor(0, 0, 9, -1, 0), -2);
        due("11: none such", bank.actor(0, 0, 10, 0, 0), -2);
        ClapBank chest = Checks.bank("actor 5 50;actor 4 50;actor 3 50;chest 20;", "night;");
        int[] friday = {2, 1, 2};
        int[] star = {10, 12, 16};
        for (int a = 0; a < 3; a++) {
            due("11: friday " + a, chest.actor(0, 0, 0, a, 5), friday[a]);
            due("11: star " + a, chest.actor(0, 0, 0, a, 6), star[a]);
        }
        ClapBank fasting = Checks.bank("actor 0 0;actor 10 5;", "night;night;");
        due("11: 99 at most", fasting.actor(0, 0, 0, 0, 5), 99);
        due("11: 99 at most", fasting.actor(0, 0, 0, 0, 6), 99);
        due("11: the night he starved", fasting.actor(0, 0, 2, 1, 4), 0);
        due("11: saved stays", fasting.actor(0, 0, 2, 1, 0), 5);
        ClapBank rent = Checks.bank("actor 10 40;rate 50;", "");
        due("11: lives on the rate", rent.actor(0, 0, 0, 0, 6), 99);
        due("11: and so by the chest", rent.actor(0, 0, 0, 0, 5), 99);
    }

    private static void runs() {
        ClapBank bank = Checks.bank("actor 5 9;actor 4 9;actor 3 9;chest 8;", "");
        due("12: nobody is doomed", bank.run(0, 0, 0, 0), 0);
        due("12: danger", bank.run(0, 0, 0, 1), 3);
        ClapBank poor = Checks.bank("actor 3 0;actor 5 0;actor 2 9;actor 9 9;chest 6;", "night;");
        due("12: doomed", poor.run(0, 0, 0, 0), 11);
        due("12: danger", poor.run(0, 0, 0, 1), 11);
        due("12: behind the night", poor.run(0, 0, 1, 0), 0);
        due("12: behind the night", poor.run(0, 0, 1, 1), 0);
        due("12: another what", bank.run(0, 0, 0, 2), -2);
        due("12: another what", bank.run(0, 0, 0, -1), -2);
        due("12: none such", bank.run(0, 0, 1, 0), -2);
        due("12: none such", bank.run(1, 0, 0, 0), -2);
    }

    private static void feast(ClapBank bank, int n, int many, int who, int two, int one) {
        int[] want = {many, who, two, one};
        for (int what = 0; what < 4; what++) {
            due("13: feast " + n + " " + what, bank.feast(0, 0, n, what), want[what]);
        }
    }

    private static void feasts() {
        ClapBank bank = Checks.bank(HOUSE, EVENING);
        feast(bank, 4, 3, 7, 2, 1);
        feast(bank, 8, 3, 7, 2, 0);
        due("13: another what", bank.feast(0, 0, 0, 4), -2);
        due("13: another what", bank.feast(0, 0, 0, -1), -2);
        due("13: none such", bank.feast(0, 0, 10, 0), -2);
        feast(Checks.bank("palm 2 1;palm 2 1;palm 1 2;actor 3 0;actor 5 0;actor 2 9;chest 6;", ""), 0, 2, 5, 1, 1);
        feast(Checks.bank("palm 1 2;actor 1 0;actor 1 0;actor 2 0;chest 0;", ""), 0, 1, 1, 1, 0);
        feast(Checks.bank("palm 1 2;palm 1 1;actor 2 0;actor 1 0;actor 1 0;", ""), 0, 2, 3, 1, 1);
        feast(Checks.bank("palm 1 2;palm 9 1;actor 2 0;actor 1 0;actor 1 0;", ""), 0, 3, 7, 1, 2);
        feast(Checks.bank("palm 9 2;palm 1 1;actor 2 0;actor 1 0;", ""), 0, 2, 3, 1, 1);
        feast(Checks.bank("actor 2 1;actor 1 1;", ""), 0, 1, 2, 0, 0);
        feast(Checks.bank("palm 9 2;", ""), 0, 0, 0, 0, 0);
    }

    private static void fair(ClapBank bank, int n, int above, int below) {
        due("14: fair " + n, bank.fair(0, 0, n, false), above);
        due("14: fair under " + n, bank.fair(0, 0, n, true), below);
    }

    private static void fairs() {
        ClapBank bank = Checks.bank(HOUSE, EVENING);
        fair(bank, 0, 11, 9);
        fair(bank, 4, 1, 1);
        fair(bank, 8, 3, 5);
        fair(bank, 9, 10, 9);
        fair(bank, 10, -2, -2);
        fair(Checks.bank("palm 4 1;actor 6 0;", ""), 0, 3, 2);
        fair(Checks.bank("palm 4 1;actor 6 6;", ""), 0, 0, 1);
        fair(Checks.bank("palm 0 1;actor 6 0;", ""), 0, -2, -2);
        fair(Checks.bank("actor 6 0;", ""), 0, -2, -2);
    }

    private static void usurers() {
        ClapBank bank = Checks.bank(HOUSE, "");
        int[][] asks = {{5, 4}, {4, 5}, {5, 4}, {4, 5}};
        int[][] taken = {{0, 0}, {0, 8}, {8, 8}, {8, 16}};
        for (int n = 0; n < 4; n++) {
            for (int u = 0; u < 2; u++) {
                due("15: ask " + u + " " + n, bank.ask(0, u, n), asks[n][u]);
                due("16: taken " + u + " " + n, bank.taken(0, u, n), taken[n][u]);
            }
        }
        due("15: 200 rounds", bank.ask(0, 0, 200), 5);
        due("16: 200 rounds", bank.taken(0, 0, 200), 800);
        for (int n : new int[] {-1, 201}) {
            due("15: other rounds", bank.ask(0, 0, n), NONE);
            due("16: other rounds", bank.taken(0, 0, n), NONE);
        }
        for (int u : new int[] {-1, 2}) {
            due("15: none such", bank.ask(0, u, 0), NONE);
            due("16: none such", bank.taken(0, u, 0), NONE);
        }
        due("15: none such", bank.ask(1, 0, 0), NONE);
        due("16: none such", bank.taken(1, 0, 0), NONE);
        stands("usurer 5 3;usurer 4 4;borrow 2;", 2, 2);
        stands("usurer 3 1;", 3, 1);
        stands("usurer 3 3;", 1, 1);
        stands("usurer 28 0;borrow 1;", 3, 1);
        stands("usurer 0 0;borrow 20;", 31, 1);
        stands("usurer 9 0;usurer 9 9;borrow 1;", 3, 2);
        stands("borrow 1;", NONE, NONE);
        due("17: another what", bank.stands(0, 2), NONE);
        due("17: another what", bank.stands(0, -1), NONE);
        due("17: none such", bank.stands(1, 0), NONE);
    }

    private static void stands(String theatre, int round, int period) {
        ClapBank bank = Checks.bank(theatre, "");
        due("17: " + theatre, bank.stands(0, 0), round);
        due("17: period of " + theatre, bank.stands(0, 1), period);
    }

    private static ClapBank dark(String theatre, String dark, long ways) {
        ClapBank bank = Checks.bank(theatre, "");
        due("4: " + dark, Checks.tell(bank, 2, NONE, dark), 0);
        due("19: " + theatre + " / " + dark, bank.ways(0, 0), ways);
        return bank;
    }

    private static void whose(ClapBank bank, int k, int sure, int maybe) {
        due("20: sure " + k, bank.whose(0, 0, k, false), sure);
        due("20: maybe " + k, bank.whose(0, 0, k, true), maybe);
    }

    private static void darks() {
        ClapBank bank = dark(HOUSE, "heard 2;heard 3;", 1);
        whose(bank, 0, 1, 1);
        whose(bank, 1, 3, 3);
        whose(bank, 2, -2, -2);
        whose(bank, -1, -2, -2);
        due("18: how many", bank.heard(0, NONE), 2);
        due("18: heard", bank.heard(0, 1), 3);
        due("18: none such", bank.heard(0, 2), -2);
        due("18: none such", bank.heard(0, -2), -2);
        due("18: none such", bank.heard(1, NONE), -2);
        due("19: none such", bank.ways(1, 0), NONE);
        due("19: none such", bank.ways(0, 1), NONE);
        due("20: none such", bank.whose(1, 0, 0, true), -2);
        due("20: none such", bank.whose(0, 1, 0, false), -2);
        ClapBank none = dark(HOUSE, "heard 1;heard 9;", 0);
        whose(none, 0, NONE, 0);
        whose(none, 1, NONE, 0);
        ClapBank either = dark("palm 1 1;palm 1 1;", "heard 1;heard 1;", 2);
        whose(either, 0, 0, 3);
        whose(dark("palm 1 1;palm 1 1;palm 2 1;", "heard 2;heard 2;", 2), 0, 4, 7);
        whose(dark("palm 1 2;palm 9 1;palm 9 1;", "heard 2;heard 3;", 2), 1, 1, 7);
        whose(dark("palm 1 2;palm 1 1;palm 9 1;", "heard 3;heard 1;", 3), 0, 1, 7);
        dark("palm 9 1;", "", 1);
        dark("", "heard 0;heard 0;heard 0;heard 0;heard 0;heard 0;", 1);
        dark("", "heard 1;", 0);
        dark("palm 99 1;".repeat(5), "heard 2;".repeat(6), 1000000);
        dark("palm 3 1;palm 2 1;", "heard 1;".repeat(5), 10);
        dark("palm 3 1;palm 2 1;", "heard 1;".repeat(6), 0);
        dark("palm 9 2;".repeat(5), "heard 10;", 1);
    }

    private static void drawn() {
        ClapBank bank = Checks.bank(HOUSE, "");
        int[][] want = {
            {1, 0, 7, 30, 6, 20, 0}, {1, 1, 3, 30, 4, 18, 5}, {1, 2, 3, 30, 0, 24, 5}, {1, 5, 2, 60, 7, 57, 5},
            {1, 20, 2, 210, 7, 574, 5}, {-7, 1, 3, 30, 0, 23, 5}, {-7, 20, 2, 220, 5, 650, 5},
            {0, 2, 3, 30, 3, 24, 2}, {2147483647, 20, 2, 220, 8, 621, 5}};
        for (int[] row : want) {
            String of = "21: drawn " + row[0] + " " + row[1] + " ";
            due(of + "lives", bank.drawn(0, row[0], row[1], 0), row[2]);
            due(of + "chest", bank.drawn(0, row[0], row[1], 1), row[3]);
            for (int a = 0; a < 3; a++) {
                due(of + "saved " + a, bank.drawn(0, row[0], row[1], 10 + a), row[4 + a]);
            }
        }
        due("21: none such", bank.drawn(0, 1, 1, 13), NONE);
        due("21: none such", bank.drawn(1, 1, 1, 0), NONE);
        due("21: other evenings", bank.drawn(0, 1, 21, 0), NONE);
        due("21: other evenings", bank.drawn(0, 1, -1, 0), NONE);
        due("21: another what", bank.drawn(0, 1, 1, 2), NONE);
        due("21: another what", bank.drawn(0, 1, 1, -1), NONE);
        due("21: nobody lives", Checks.bank("palm 9 2;", "").drawn(0, 5, 20, 1), 999);
    }

    private static void looks() {
        ClapBank bank = Checks.bank(HOUSE, EVENING);
        due("22: nobody owes", bank.look(0, 0, 2, 0), NONE);
        due("22: loan", bank.look(0, 0, 3, 0), 2);
        due("22: nobody got any", bank.look(0, 0, 0, 1), NONE);
        due("22: idol", bank.look(0, 0, 9, 1), 0);
        due("22: another what", bank.look(0, 0, 9, 2), -2);
        due("22: another what", bank.look(0, 0, 9, -1), -2);
        due("22: none such", bank.look(0, 0, 9, 13), -2);
        due("22: none such", bank.look(0, 0, 9, 23), -2);
        due("22: none such", bank.look(0, 0, 10, 0), -2);
        ClapBank loans = Checks.bank("palm 9 1;palm 9 1;palm 9 1;", "lend 0 2 1;lend 1 0 1;lend 1 2 1;lend 2 0 1;");
        due("22: one owes", loans.look(0, 0, 1, 0), 2);
        due("22: of several the least", loans.look(0, 0, 2, 0), 0);
        due("22: all together", loans.look(0, 0, 3, 0), 2);
        due("22: of several the least", loans.look(0, 0, 4, 0), 0);
        ClapBank idols = Checks.bank("palm 9 1;actor 0 0;actor 0 0;", "storm 0 9;clap 0 1 1;clap 0 0 1;clap 0 0 1;");
        due("22: a storm is no clap", idols.look(0, 0, 1, 1), NONE);
        due("22: by claps", idols.look(0, 0, 2, 1), 1);
        due("22: of several the least", idols.look(0, 0, 3, 1), 0);
        tips();
        int[][] dear = {{10, 12, 3}, {10, 9, 0}, {0, 0, 99}, {40, 400, 91}, {1, 5, 50}, {1, 20, 99}};
        for (int[] row : dear) {
            ClapBank one = Checks.bank("actor " + row[0] + " " + row[1] + ";chest 0;", "");
            due("22: dear " + row[0] + " " + row[1], one.look(0, 0, 0, 20), row[2]);
        }
        due("22: dearer by encores", Checks.bank("actor 10 12;", "encore;").look(0, 0, 1, 20), 2);
        due("22: dear of one who starved", Checks.bank("actor 10 9;", "night;").look(0, 0, 1, 20), 0);
    }

    private static void tips() {
        due("22: tip of one who starved", Checks.bank("actor 10 9;", "night;").look(0, 0, 1, 10), NONE);
        due("22: no tip is asked", Checks.bank("actor 10 10;", "").look(0, 0, 0, 10), 0);
        due("22: tip", Checks.bank("actor 10 5;", "").look(0, 0, 0, 10), 3);
        due("22: tip for the chest", Checks.bank("actor 10 10;actor 5 5;chest 5;", "").look(0, 0, 0, 10), 3);
        due("22: he ahead starves", Checks.bank("actor 10 10;actor 5 5;chest 5;", "").look(0, 0, 0, 11), 0);
        due("22: he ahead eats by it", Checks.bank("actor 10 10;actor 5 3;chest 9;", "").look(0, 0, 0, 11), 3);
        String three = "chest 0;" + "actor 40 400;".repeat(3);
        due("22: 99", Checks.bank(three + "actor 38 400;actor 40 0;", "").look(0, 0, 0, 14), 99);
        due("22: by none", Checks.bank(three + "actor 39 400;actor 40 0;", "").look(0, 0, 0, 14), NONE);
        due("22: two halves a clap, echo aside",
            Checks.bank("palm 1 1;actor 10 0;", "clap 0 0 1;").look(0, 0, 1, 10), 5);
    }

    private static void silence(String theatre, String book, int who, int many) {
        ClapBank bank = Checks.bank(theatre, book);
        due("23: " + theatre + " / " + book, bank.silence(0, 0, false), who);
        due("23: many of " + theatre + " / " + book, bank.silence(0, 0, true), many);
    }

    private static void silences() {
        silence(HOUSE, EVENING, 0, 2);
        silence("palm 5 2;palm 5 2;actor 3 0;actor 3 0;", "clap 0 0 2;clap 1 1 2;clap 1 0 1;night;", 0, 1);
        silence("palm 9 1;palm 9 1;actor 3 0;actor 0 0;", "clap 1 0 1;clap 0 1 1;clap 1 0 1;night;", 1, 1);
        silence("palm 9 1;palm 0 1;actor 1 0;", "lend 0 1 1;clap 1 0 1;night;", 0, 1);
        silence("palm 9 1;palm 9 1;actor 1 1;", "hush 0 1 1;night;", 0, 1);
        silence("palm 9 1;palm 2 1;actor 2 0;", "lend 1 0 2;repay 0 1 2;clap 1 0 2;night;", 1, 1);
        silence("palm 9 1;palm 5 1;palm 0 1;actor 2 0;", "lend 1 2 2;clap 2 0 2;night;", 1, 1);
        silence("palm 9 1;actor 1 1;", "", 0, 0);
        silence("palm 9 1;palm 9 1;actor 1 0;", "clap 1 0 1;clap 0 1 1;night;", 0, 0);
        silence("actor 1 0;", "night;", NONE, NONE);
        ClapBank bank = Checks.bank(HOUSE, EVENING);
        due("23: none such", bank.silence(1, 0, false), NONE);
        due("23: none such", bank.silence(0, 1, true), NONE);
    }

    private static void images() {
        ClapBank bank = Checks.bank(HOUSE, EVENING);
        Checks.tell(bank, 2, NONE, "heard 7;");
        Checks.tell(bank, 2, NONE, "heard 11;");
        Checks.tape(bank, "night;");
        checks.due("25: image", bank.image(2), true);
        checks.due("25: image of another k", bank.image(3), false);
        checks.due("25: image of another k", bank.image(-1), false);
        checks.due("26: none such", bank.again(1), false);
        Checks.tell(bank, 0, 0, "palm 1 1;");
        Checks.tell(bank, 0, NONE, "");
        Checks.tell(bank, 1, 0, "");
        Checks.tell(bank, 1, NONE, "");
        Checks.tell(bank, 2, 0, "");
        checks.due("25: image", bank.image(0), true);
        checks.due("26: again", bank.again(2), true);
        due("26: fault", bank.fault(0), 2);
        due("26: place", bank.fault(1), 6);
        due("26: theatres", bank.count(0), 1);
        due("26: books", bank.count(1), 1);
        due("26: darks", bank.count(2), 1);
        due("26: chest", bank.theatre(0, 3), 30);
        due("26: stop", bank.stop(0, 0), 9);
        due("26: heard", bank.heard(0, 0), 7);
        due("26: tape", bank.end(7), NONE);
        due("26: tape", bank.text(1, 0), 0);
        due("26: tape's text", bank.deed(0, 0, 0), 6);
        checks.due("26: again", bank.again(0), true);
        due("26: no fault", bank.fault(0), 0);
        due("26: theatres", bank.count(0), 2);
        due("26: palms", bank.theatre(0, 0), 1);
        due("26: tape", bank.end(1), NONE);
        checks.due("26: an image stays", bank.again(2), true);
        due("26: deeds", bank.deed(0, NONE, 0), 10);
        due("26: tape", bank.end(6), 6);
        checks.due("25: image anew", bank.image(0), true);
        checks.due("26: again", bank.again(0), true);
        due("26: deeds", bank.deed(0, NONE, 0), 10);
    }

    /** No call throws, whatever it is given. */
    private static void wildArguments() {
        int[] wild = {Integer.MIN_VALUE, -3, -2, -1, 0, 1, 2, 5, 6, 7, 10, 14, 15, 20, 25, 30, 99, 200, 201, Integer.MAX_VALUE};
        for (ClapBank bank : new ClapBank[] {new ClapBank(), Checks.bank(HOUSE, EVENING)}) {
            Checks.tell(bank, 2, NONE, "heard 3;");
            for (int a : wild) {
                bank.end(a);
                bank.fault(a);
                bank.count(a);
                bank.image(a);
                bank.again(a);
                for (int b : wild) {
                    bank.theatre(a, b);
                    bank.stop(a, b);
                    bank.stands(a, b);
                    bank.heard(a, b);
                    bank.ways(a, b);
                    bank.silence(a, b, true);
                    for (int c : wild) {
                        wildFew(bank, a, b, c);
                        for (int d : wild) {
                            bank.state(a, b, c, d);
                            bank.palm(a & 1, b & 1, c, d, a);
                            bank.actor(a & 1, b & 1, c, d, a);
                            bank.run(a, b, c, d);
                            bank.feast(a, b, c, d);
                            bank.look(a, b, c, d);
                            bank.drawn(a, b, c, d);
                        }
                    }
                }
            }
            due("the first book stands", bank.count(1) >= 0 ? 1 : 0, 1);
        }
    }

    private static void wildFew(ClapBank bank, int a, int b, int c) {
        bank.deed(a, b, c);
        bank.fair(a, b, c, true);
        bank.ask(a, b, c);
        bank.taken(a, b, c);
        bank.whose(a, b, c, true);
    }
}
