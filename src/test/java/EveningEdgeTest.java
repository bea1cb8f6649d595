import java.util.Arrays;

/** The edges of evenings: the document's Terms 2, 3 and 6, and promises 8 to 14, 22, 23, sentence by sentence. */
public final class EveningEdgeTest {
    private static final Checks checks = new Checks();
    private static final int NONE = ClapBank.NONE;
    private static final int[] FAR = {Integer.MIN_VALUE, -2, -1, 1, 2, Integer.MAX_VALUE};
    private static final String FULL = "palm 9 1;palm 8 2;palm 7 1;palm 6 2;palm 5 1;"
        + "actor 1 10;actor 2 20;actor 3 30;actor 4 40;actor 5 50;actor 6 60;";

    public static void main(String[] args) {
        clapsUpToLeft();
        clapsOfHands();
        echoRightAhead();
        echoBroken();
        lends();
        repays();
        hushes();
        storms();
        encores();
        noSuchPalmOrActor();
        noLongerThere();
        starvedOnes();
        stops();
        statesUpToStop();
        nightOfSaved();
        nightOfChest();
        nightByNumbers();
        nightGrowsSaved();
        nightGrowsOwes();
        nightGrowsEachDebt();
        nightRenews();
        nightOfStarving();
        stateOfWhat();
        palmOfWhat();
        actorOfWhat();
        fridays();
        stars();
        runs();
        needs();
        feastsEmptyAndFull();
        feastsExact();
        feastsInTurn();
        feastsTied();
        fairs();
        loans();
        idols();
        tips();
        dears();
        looksOfWhat();
        silences();
        silencesOfNone();
        questionsLeaveAll();
        checks.finish();
    }

    private static void due(String call, long got, long want) {
        checks.due(call, got, want);
    }

    private static void stop(String theatre, String book, int want) {
        due("8: stop of " + theatre + " / " + book, Checks.bank(theatre, book).stop(0, 0), want);
    }

    private static void saved(String theatre, String book, int n, int... want) {
        ClapBank bank = Checks.bank(theatre, book);
        for (int a = 0; a < want.length; a++) {
            due("11: saved " + a + " of " + theatre + " / " + book, bank.actor(0, 0, n, a, 0), want[a]);
        }
    }

    private static void chest(String theatre, String book, int n, int want) {
        due("9: chest of " + theatre + " / " + book, Checks.bank(theatre, book).state(0, 0, n, 0), want);
    }

    private static void lives(String theatre, String book, int n, int want) {
        due("9: who lives, " + theatre + " / " + book, Checks.bank(theatre, book).state(0, 0, n, 3), want);
    }

    private static void clapsUpToLeft() {
        stop("palm 3 1;actor 0 0;", "clap 0 0 3;", 1);
        stop("palm 3 1;actor 0 0;", "clap 0 0 4;", 0);
        stop("palm 0 2;actor 0 0;", "clap 0 0 1;", 0);
        stop("palm 1 2;actor 0 0;", "clap 0 0 1;clap 0 0 1;", 1);
        stop("palm 99 2;actor 0 0;", "clap 0 0 99;clap 0 0 1;", 1);
        ClapBank bank = Checks.bank("palm 3 1;actor 0 0;", "clap 0 0 2;clap 0 0 1;");
        int[] left = {3, 1, 0};
        int[] claps = {0, 2, 3};
        for (int n = 0; n < 3; n++) {
            due("10: left behind " + n, bank.palm(0, 0, n, 0, 0), left[n]);
            due("9: claps behind " + n, bank.state(0, 0, n, 6), claps[n]);
        }
    }

    private static void clapsOfHands() {
        saved("palm 99 1;actor 0 0;", "clap 0 0 99;", 1, 99);
        saved("palm 99 2;actor 0 400;", "clap 0 0 99;", 1, 598);
        chest("palm 99 2;actor 0 0;", "clap 0 0 99;", 1, 1197);
        chest("palm 1 1;actor 0 0;chest 0;", "clap 0 0 1;", 1, 1);
    }

    private static void echo(String book, int first, int second) {
        ClapBank bank = Checks.bank("palm 20 1;palm 20 1;actor 0 9;actor 0 9;", book);
        int n = bank.deed(0, NONE, 0);
        due("8: " + book, bank.stop(0, 0), n);
        due("10: of the first palm, " + book, bank.palm(0, 0, n, 0, 20), first);
        due("10: of the second palm, " + book, bank.palm(0, 0, n, 1, 20), second);
        due("9: all claps, " + book, bank.state(0, 0, n, 6), book.split("clap", -1).length - 1);
    }

    private static void echoRightAhead() {
        echo("clap 0 0 1;", 1, 0);
        echo("clap 0 0 1;clap 0 0 1;", 3, 0);
        echo("clap 0 0 1;clap 0 0 1;clap 0 0 1;", 5, 0);
        echo("clap 0 0 1;clap 1 0 1;", 1, 2);
        echo("clap 0 0 1;clap 1 0 1;clap 0 0 1;", 3, 2);
        ClapBank bank = Checks.bank("palm 99 2;palm 99 2;actor 0 400;", "clap 0 0 99;clap 1 0 99;");
        due("10: the most by one deed", bank.palm(0, 0, 2, 1, 20), 396);
        due("11: saved", bank.actor(0, 0, 2, 0, 0), 994);
        due("9: chest", bank.state(0, 0, 2, 0), 1593);
        due("9: claps do not echo", bank.state(0, 0, 2, 6), 198);
    }

    private static void echoBroken() {
        for (String between : new String[] {"lend 1 0 1;", "hush 0 1 1;", "storm 0 1;", "storm 1 1;", "encore;", "night;"}) {
            echo("clap 0 0 1;" + between + "clap 0 0 1;", 2, 0);
        }
        echo("lend 1 0 1;clap 0 0 1;repay 0 1 1;clap 0 0 1;", 2, 0);
        echo("clap 0 0 1;clap 0 1 1;clap 0 0 1;", 2, 0);
        echo("storm 0 1;clap 0 0 1;", 1, 0);
        saved("palm 9 2;actor 0 0;", "clap 0 0 1;storm 0 3;", 2, 8);
        saved("palm 9 2;actor 0 0;", "storm 0 3;storm 0 3;", 2, 12);
    }

    private static void lends() {
        stop("palm 3 1;palm 0 1;", "lend 0 1 3;", 1);
        stop("palm 3 1;palm 0 1;", "lend 0 1 4;", 0);
        stop("palm 3 1;palm 0 1;", "lend 1 0 1;", 0);
        stop("palm 3 1;palm 0 1;", "lend 0 1 3;lend 1 0 3;", 2);
        ClapBank bank = Checks.bank("palm 99 1;palm 99 1;actor 0 0;", "lend 0 1 99;clap 1 0 99;clap 1 0 99;clap 1 0 1;");
        due("10: none left", bank.palm(0, 0, 1, 0, 0), 0);
        due("10: more left than may be told", bank.palm(0, 0, 1, 1, 0), 198);
        due("10: owes", bank.palm(0, 0, 1, 1, 10), 99);
        due("10: the other one owes none", bank.palm(0, 0, 1, 0, 11), 0);
        due("8: all of it may be clapped", bank.stop(0, 0), 3);
        ClapBank both = Checks.bank("palm 3 1;palm 3 1;", "lend 0 1 2;lend 1 0 3;");
        due("10: one does not strike the other", both.palm(0, 0, 2, 1, 10), 2);
        due("10: one does not strike the other", both.palm(0, 0, 2, 0, 11), 3);
    }

    private static void repays() {
        String two = "palm 0 1;palm 5 1;actor 0 0;";
        stop(two, "lend 1 0 2;repay 0 1 2;", 2);
        stop(two, "lend 1 0 2;repay 0 1 1;repay 0 1 1;", 3);
        stop("palm 9 1;palm 5 1;", "lend 1 0 2;repay 0 1 3;", 1);
        stop("palm 9 1;palm 5 1;", "lend 1 0 2;repay 0 1 2;repay 0 1 1;", 2);
        stop("palm 9 1;palm 5 1;", "repay 0 1 1;", 0);
        stop("palm 9 1;palm 5 1;", "lend 1 0 2;repay 1 0 1;", 1);
        stop(two, "lend 1 0 2;clap 0 0 1;repay 0 1 1;", 3);
        stop(two, "lend 1 0 2;clap 0 0 1;repay 0 1 2;", 2);
        stop("palm 9 1;palm 9 1;palm 9 1;", "lend 1 0 2;repay 0 2 1;", 1);
        stop("palm 9 1;palm 9 1;rate 50;", "lend 1 0 2;night;repay 0 1 3;", 3);
        stop("palm 9 1;palm 9 1;rate 50;", "lend 1 0 2;night;repay 0 1 4;", 2);
        stop("palm 9 1;palm 9 1;", "lend 1 0 2;night;repay 0 1 3;", 2);
        ClapBank bank = Checks.bank(two, "lend 1 0 2;repay 0 1 2;");
        due("10: owes none", bank.palm(0, 0, 2, 0, 11), 0);
        due("10: left", bank.palm(0, 0, 2, 0, 0), 0);
        due("10: left", bank.palm(0, 0, 2, 1, 0), 5);
    }

    private static void hushes() {
        stop("palm 9 1;actor 0 7;", "hush 0 0 7;", 1);
        stop("palm 9 1;actor 0 7;", "hush 0 0 8;", 0);
        stop("palm 9 1;actor 0 99;chest 7;", "hush 0 0 7;", 1);
        stop("palm 9 1;actor 0 99;chest 7;", "hush 0 0 8;", 0);
        stop("palm 9 1;actor 0 99;chest 0;", "hush 0 0 1;", 0);
        stop("palm 9 1;actor 0 0;", "hush 0 0 1;", 0);
        stop("palm 0 1;actor 0 7;", "hush 0 0 3;hush 0 0 4;hush 0 0 1;", 2);
        saved("palm 9 1;actor 0 7;chest 7;", "hush 0 0 7;", 1, 0);
        chest("palm 9 1;actor 0 7;chest 7;", "hush 0 0 7;", 1, 0);
        String two = "palm 9 1;palm 9 1;actor 0 50;actor 0 50;";
        stop(two, "hush 0 0 1;clap 0 0 1;", 1);
        stop(two, "hush 0 0 1;clap 1 0 1;clap 0 0 1;", 2);
        stop(two, "hush 0 0 1;lend 0 1 1;", 1);
        stop(two, "hush 0 0 1;lend 1 0 1;", 2);
        stop(two, "lend 1 0 1;hush 0 0 1;repay 0 1 1;", 2);
        stop(two, "lend 0 1 1;hush 0 0 1;repay 1 0 1;", 3);
        stop(two, "hush 0 0 1;night;clap 0 0 1;lend 0 1 1;", 4);
        stop(two, "hush 0 0 1;encore;storm 0 1;clap 0 1 1;", 3);
        ClapBank bank = Checks.bank(FULL, "hush 5 0 1;hush 5 4 1;hush 5 1 1;hush 5 2 1;hush 5 3 1;night;");
        int[] hushed = {0, 1, 17, 19, 23, 31, 0};
        for (int n = 0; n < hushed.length; n++) {
            due("9: hushed behind " + n, bank.state(0, 0, n, 4), hushed[n]);
        }
    }

    private static void storms() {
        saved("actor 0 0;", "storm 0 1;", 1, 2);
        saved("actor 0 400;", "storm 0 99;", 1, 598);
        chest("actor 0 0;chest 0;", "storm 0 99;", 1, 198);
        ClapBank bank = Checks.bank("palm 9 2;actor 0 0;actor 0 0;", "storm 1 99;storm 1 1;");
        due("11: halves of storms", bank.actor(0, 0, 0, 1, 7), 0);
        due("11: halves of storms", bank.actor(0, 0, 1, 1, 7), 198);
        due("11: halves of storms", bank.actor(0, 0, 2, 1, 7), 200);
        due("11: none for the other", bank.actor(0, 0, 2, 0, 7), 0);
        due("9: claps without storms", bank.state(0, 0, 2, 6), 0);
        due("10: of no palm", bank.palm(0, 0, 2, 0, 21), 0);
        due("10: no palm's claps go", bank.palm(0, 0, 2, 0, 0), 9);
    }

    private static void eats(int hunger, int encores, int want) {
        ClapBank bank = Checks.bank("actor " + hunger + " 400;", "encore;".repeat(encores));
        due("11: eats " + hunger + " behind " + encores, bank.actor(0, 0, encores, 0, 2), want);
        due("9: encores", bank.state(0, 0, encores, 1), encores);
    }

    private static void encores() {
        int[][] rows = {{0, 30, 0}, {1, 0, 1}, {1, 9, 1}, {1, 10, 2}, {1, 29, 3}, {1, 30, 4}, {9, 1, 9}, {9, 2, 10}, {10, 1, 11},
            {19, 1, 20}, {40, 0, 40}, {40, 1, 44}, {40, 30, 160}, {7, 3, 9}};
        for (int[] row : rows) {
            eats(row[0], row[1], row[2]);
        }
        ClapBank bank = Checks.bank("actor 40 400;chest 999;", "encore;".repeat(29) + "night;");
        due("9: the dearest night", bank.state(0, 0, 30, 0), 999 - 156);
        due("11: the dearest night", bank.actor(0, 0, 30, 0, 0), 400 - 156);
        due("11: prices stay behind a night", Checks.bank("actor 10 99;", "encore;night;").actor(0, 0, 2, 0, 2), 11);
    }

    /** The last palm and the last actor are there, the next ones are not. */
    private static void noSuchPalmOrActor() {
        String[] last = {"clap 4 0 1;", "clap 0 5 1;", "lend 4 0 1;", "lend 0 4 1;", "hush 5 0 1;", "hush 0 4 1;", "storm 5 1;"};
        String fewer = "palm 9 1;palm 8 2;palm 7 1;palm 6 2;actor 1 10;actor 2 20;actor 3 30;actor 4 40;actor 5 50;";
        for (String line : last) {
            stop(FULL, line, 1);
            stop(fewer, line, 0);
            stop("", line, 0);
        }
        stop(FULL, "lend 0 4 1;repay 4 0 1;", 2);
        stop(fewer, "repay 4 0 1;", 0);
        stop(fewer, "repay 0 4 1;", 0);
        stop(fewer, "clap 3 4 1;lend 3 0 1;repay 0 3 1;hush 4 3 1;storm 4 1;", 5);
        stop("palm 1 1;", "clap 0 0 1;", 0);
        stop("actor 1 1;", "clap 0 0 1;", 0);
        stop("", "encore;night;encore;night;", 4);
    }

    /** What was told before in a theatre's place, or in another one, is not there any more. */
    private static void noLongerThere() {
        String[] lines = {"clap 4 0 1;", "clap 0 5 1;", "lend 4 0 1;", "lend 0 4 1;", "hush 5 0 1;", "hush 0 4 1;", "storm 5 1;"};
        for (String line : lines) {
            ClapBank bank = Checks.bank(FULL, line);
            due("8: there", bank.stop(0, 0), 1);
            Checks.tell(bank, 0, 0, "palm 9 1;actor 1 10;");
            Checks.tell(bank, 0, NONE, "palm 9 1;actor 1 10;");
            due("8: no longer there", bank.stop(0, 0), 0);
            due("8: nor in the other one", bank.stop(1, 0), 0);
            due("6: no longer there", bank.theatre(0, 14), NONE);
            due("6: no longer there", bank.theatre(0, 35), NONE);
            due("10: no longer there", bank.palm(0, 0, 0, 4, 0), -2);
            due("11: no longer there", bank.actor(0, 0, 0, 5, 0), -2);
            due("9: no longer there", bank.state(0, 0, 0, 3), 1);
        }
    }

    private static void starvedOnes() {
        String one = "palm 9 1;actor 10 9;actor 1 50;";
        lives(one, "night;", 1, 2);
        stop(one, "night;clap 0 0 1;", 1);
        stop(one, "night;storm 0 1;", 1);
        stop(one, "night;hush 0 0 1;", 1);
        stop(one, "night;clap 0 1 1;storm 1 1;hush 1 0 1;night;", 5);
        stop(one, "clap 0 0 1;night;clap 0 0 1;storm 0 1;hush 0 0 1;", 5);
    }

    private static void stops() {
        stop(FULL, "", 0);
        stop(FULL, "encore;".repeat(30), 30);
        stop(FULL, "encore;".repeat(29) + "clap 0 0 10;", 29);
        stop(FULL, "clap 0 0 10;" + "encore;".repeat(29), 0);
        stop(FULL, "encore;clap 0 0 10;encore;clap 0 0 10;", 1);
        ClapBank bank = Checks.bank(FULL, "encore;");
        for (int far : FAR) {
            due("8: no such theatre", bank.stop(far, 0), NONE);
            due("8: no such book", bank.stop(0, far), NONE);
        }
        due("8: nothing is told", new ClapBank().stop(0, 0), NONE);
        ClapBank two = Checks.bank("", "clap 0 0 1;");
        Checks.tell(two, 0, NONE, "palm 1 1;actor 0 0;");
        Checks.tell(two, 1, NONE, "encore;encore;encore;");
        int[] want = {0, 3, 1, 3};
        for (int i = 0; i < 4; i++) {
            due("8: each theatre by each book", two.stop(i / 2, i % 2), want[i]);
        }
    }

    /** All that is asked of a state answers -2, if there is none. */
    private static void noState(String of, ClapBank bank, int theatre, int book, int n) {
        due(of + " 9: no state", bank.state(theatre, book, n, 0), -2);
        due(of + " 10: no state", bank.palm(theatre, book, n, 0, 0), -2);
        due(of + " 11: no state", bank.actor(theatre, book, n, 0, 0), -2);
        due(of + " 12: no state", bank.run(theatre, book, n, 0), -2);
        due(of + " 13: no state", bank.feast(theatre, book, n, 0), -2);
        due(of + " 14: no state", bank.fair(theatre, book, n, false), -2);
        due(of + " 14: no state", bank.fair(theatre, book, n, true), -2);
        for (int what : new int[] {0, 1, 10, 20}) {
            due(of + " 22: no state", bank.look(theatre, book, n, what), -2);
        }
    }

    private static void isState(String of, ClapBank bank, int n) {
        due(of + " 9: lives", bank.state(0, 0, n, 3), 63);
        due(of + " 10: left", bank.palm(0, 0, n, 4, 0), 5);
        due(of + " 11: lives", bank.actor(0, 0, n, 5, 1), 1);
        due(of + " 12: run", bank.run(0, 0, n, 0), 0);
        due(of + " 13: feast", bank.feast(0, 0, n, 0), 6);
        due(of + " 14: fair", bank.fair(0, 0, n, false), 0);
        due(of + " 22: loan", bank.look(0, 0, n, 0), NONE);
        due(of + " 22: tip", bank.look(0, 0, n, 15), 0);
    }

    private static void statesUpToStop() {
        String[] books = {"", "encore;".repeat(30), "encore;encore;clap 0 0 99;encore;", "clap 0 0 99;"};
        int[] stops = {0, 30, 2, 0};
        for (int i = 0; i < books.length; i++) {
            ClapBank bank = Checks.bank(FULL, books[i]);
            isState("first", bank, 0);
            isState("last", bank, stops[i]);
            for (int n : new int[] {stops[i] + 1, -1, -2, 31, Integer.MIN_VALUE, Integer.MAX_VALUE}) {
                noState("n " + n, bank, 0, 0, n);
            }
            for (int far : FAR) {
                noState("theatre " + far, bank, far, 0, 0);
                noState("book " + far, bank, 0, far, 0);
            }
        }
        noState("new", new ClapBank(), 0, 0, 0);
        ClapBank empty = Checks.bank("", "");
        int[] want = {999, 0, 0, 0, 0, 0, 0};
        for (int what = 0; what < want.length; what++) {
            due("9: an empty theatre " + what, empty.state(0, 0, 0, what), want[what]);
        }
    }

    private static void nightOfSaved() {
        lives("actor 5 5;", "night;", 1, 1);
        saved("actor 5 5;", "night;", 1, 0);
        chest("actor 5 5;", "night;", 1, 994);
        lives("actor 5 4;", "night;", 1, 0);
        saved("actor 5 4;", "night;", 1, 4);
        chest("actor 5 4;", "night;", 1, 999);
        lives("actor 0 0;", "night;", 1, 1);
        lives("actor 10 10;", "encore;night;", 2, 0);
        lives("actor 10 11;", "encore;night;", 2, 1);
    }

    private static void nightOfChest() {
        lives("actor 5 9;chest 5;", "night;", 1, 1);
        saved("actor 5 9;chest 5;", "night;", 1, 4);
        chest("actor 5 9;chest 5;", "night;", 1, 0);
        lives("actor 5 9;chest 4;", "night;", 1, 0);
        saved("actor 5 9;chest 4;", "night;", 1, 9);
        chest("actor 5 9;chest 4;", "night;", 1, 4);
        lives("actor 0 0;chest 0;", "night;", 1, 1);
        lives("actor 1 1;chest 0;", "night;", 1, 0);
    }

    private static void nightByNumbers() {
        lives("actor 5 5;actor 4 4;chest 9;", "night;", 1, 3);
        lives("actor 5 5;actor 4 4;chest 8;", "night;", 1, 1);
        lives("actor 4 4;actor 5 5;chest 8;", "night;", 1, 1);
        lives("actor 9 9;actor 4 4;chest 8;", "night;", 1, 2);
        lives("actor 9 8;actor 4 4;chest 9;", "night;", 1, 2);
        lives("actor 1 1;".repeat(6) + "chest 6;", "night;", 1, 63);
        lives("actor 1 1;".repeat(6) + "chest 5;", "night;", 1, 31);
        lives("actor 1 1;".repeat(6) + "chest 1;", "night;", 1, 1);
        lives("actor 1 1;".repeat(6) + "chest 0;", "night;", 1, 0);
        lives("actor 1 2;".repeat(6) + "chest 7;", "night;night;", 2, 1);
    }

    private static void nightGrowsSaved() {
        int[][] rows = {{99, 1, 99}, {100, 1, 101}, {199, 1, 200}, {200, 1, 202}, {1, 50, 1}, {2, 50, 3}, {3, 50, 4},
            {400, 50, 600}, {400, 0, 400}, {9, 10, 9}, {10, 10, 11}, {19, 10, 20}, {0, 50, 0}};
        for (int[] row : rows) {
            saved("actor 0 " + row[0] + ";rate " + row[1] + ";", "night;", 1, row[2]);
        }
        saved("actor 1 100;rate 1;", "night;", 1, 99);
        saved("actor 1 101;rate 1;", "night;", 1, 101);
        saved("actor 40 39;rate 50;", "night;night;", 2, 39);
        chest("actor 0 400;chest 100;rate 50;", "night;night;", 2, 100);
        saved("actor 0 50;actor 0 50;rate 1;", "night;", 1, 50, 50);
        saved("actor 4 4;actor 4 400;chest 4;rate 50;", "night;", 1, 0, 400);
    }

    private static void nightGrowsOwes() {
        String three = "palm 99 1;palm 99 1;palm 99 1;rate 1;";
        ClapBank one = Checks.bank(three, "lend 0 1 99;night;");
        due("10: cut", one.palm(0, 0, 2, 1, 10), 99);
        ClapBank more = Checks.bank(three, "lend 2 0 1;lend 0 1 99;lend 0 1 1;night;night;");
        due("10: a hundredth of all he owes him", more.palm(0, 0, 4, 1, 10), 101);
        due("10: of what it is by then", more.palm(0, 0, 5, 1, 10), 102);
        ClapBank both = Checks.bank(three, "lend 0 1 50;lend 2 1 50;night;");
        due("10: each by itself", both.palm(0, 0, 3, 1, 10), 50);
        due("10: each by itself", both.palm(0, 0, 3, 1, 12), 50);
        ClapBank none = Checks.bank("palm 9 1;palm 9 1;rate 0;", "lend 0 1 9;night;");
        due("10: no rate", none.palm(0, 0, 2, 1, 10), 9);
        ClapBank long30 = Checks.bank("palm 99 1;palm 9 1;rate 50;", "lend 0 1 99;" + "night;".repeat(29));
        long owes = 99;
        for (int i = 0; i < 29; i++) {
            owes += owes * 50 / 100;
        }
        due("10: the longest debt", long30.palm(0, 0, 30, 1, 10), owes);
    }

    private static void nightGrowsEachDebt() {
        for (int p = 0; p < 5; p++) {
            for (int q = 0; q < 5; q++) {
                if (p != q) {
                    ClapBank bank = Checks.bank("palm 9 1;".repeat(5) + "rate 50;", "lend " + q + " " + p + " 2;night;");
                    due("10: " + p + " owes " + q, bank.palm(0, 0, 1, p, 10 + q), 2);
                    due("10: " + p + " owes " + q + " more", bank.palm(0, 0, 2, p, 10 + q), 3);
                    due("10: " + q + " owes " + p + " none", bank.palm(0, 0, 2, q, 10 + p), 0);
                    due("22: who owes", bank.look(0, 0, 2, 0), p);
                }
            }
        }
    }

    private static void nightRenews() {
        ClapBank bank = Checks.bank("palm 5 1;palm 0 1;palm 99 1;actor 0 9;", "lend 2 1 99;clap 0 0 5;hush 0 2 1;night;");
        int[] before = {0, 99, 0};
        int[] behind = {5, 0, 99};
        for (int p = 0; p < 3; p++) {
            due("10: left before", bank.palm(0, 0, 3, p, 0), before[p]);
            due("10: left behind", bank.palm(0, 0, 4, p, 0), behind[p]);
        }
        due("9: hushed before", bank.state(0, 0, 3, 4), 4);
        due("9: hushed behind", bank.state(0, 0, 4, 4), 0);
        due("10: still owes", bank.palm(0, 0, 4, 1, 12), 99);
        due("9: claps so far", bank.state(0, 0, 4, 6), 5);
        due("10: halves so far", bank.palm(0, 0, 4, 0, 20), 5);
        ClapBank nights = Checks.bank("", "night;".repeat(30));
        for (int n = 0; n <= 30; n++) {
            due("9: nights", nights.state(0, 0, n, 2), n);
        }
    }

    private static void nightOfStarving() {
        ClapBank bank = Checks.bank("actor 10 9;actor 10 19;actor 1 100;", "night;night;night;");
        int[][] want = {{NONE, 0, 0, 0}, {NONE, NONE, 1, 1}, {NONE, NONE, NONE, NONE}};
        for (int a = 0; a < 3; a++) {
            for (int n = 0; n < 4; n++) {
                due("11: the night " + a + " starved, behind " + n, bank.actor(0, 0, n, a, 4), want[a][n]);
                due("11: lives", bank.actor(0, 0, n, a, 1), want[a][n] == NONE ? 1 : 0);
            }
        }
        int[] all = {128, 108, 98, 97};
        for (int n = 0; n < 4; n++) {
            due("9: all saved of those who live, behind " + n, bank.state(0, 0, n, 5), all[n]);
        }
        ClapBank last = Checks.bank("actor 1 29;", "night;".repeat(30));
        due("11: the latest night", last.actor(0, 0, 30, 0, 4), 29);
        due("9: nobody lives", last.state(0, 0, 30, 3), 0);
        due("9: nothing saved", last.state(0, 0, 30, 5), 0);
    }

    private static void stateOfWhat() {
        ClapBank bank = Checks.bank(FULL, "encore;night;hush 0 4 1;clap 0 5 3;");
        int[] want = {999 - 21 - 1 + 3, 1, 1, 63, 16, 210 - 21 - 1 + 3, 3};
        for (int what = -12; what < 40; what++) {
            boolean told = what >= 0 && what < want.length;
            due("9: what " + what, bank.state(0, 0, 4, what), told ? want[what] : -2);
        }
        due("9: another what", bank.state(0, 0, 4, Integer.MIN_VALUE), -2);
        due("9: another what", bank.state(0, 0, 4, Integer.MAX_VALUE), -2);
    }

    private static void palmOfWhat() {
        ClapBank bank = Checks.bank(FULL, "lend 0 4 1;lend 1 4 2;lend 2 4 3;lend 3 4 4;clap 4 5 2;clap 4 0 1;");
        int[] owes = {1, 2, 3, 4};
        for (int what = -12; what < 50; what++) {
            int want = what == 0 ? 12 : what >= 10 && what < 14 ? owes[what - 10] : what == 20 ? 1 : what == 25 ? 2
                : what > 20 && what < 25 ? 0 : -2;
            due("10: what " + what, bank.palm(0, 0, 6, 4, what), want);
        }
        for (int p = 0; p < 5; p++) {
            due("10: himself is not another one", bank.palm(0, 0, 6, p, 10 + p), -2);
        }
        for (int p : new int[] {-1, 5, 6, Integer.MIN_VALUE, Integer.MAX_VALUE}) {
            due("10: no such palm", bank.palm(0, 0, 6, p, 0), -2);
            due("10: no such other one", bank.palm(0, 0, 6, 4, p < 0 ? 10 + p : 15), -2);
        }
        due("10: another what", bank.palm(0, 0, 6, 4, Integer.MIN_VALUE), -2);
        due("10: another what", bank.palm(0, 0, 6, 4, Integer.MAX_VALUE), -2);
        ClapBank two = Checks.bank("palm 1 1;palm 1 1;actor 1 1;", "");
        due("10: the last one", two.palm(0, 0, 0, 1, 10), 0);
        due("10: the last one", two.palm(0, 0, 0, 0, 11), 0);
        due("10: the next is none", two.palm(0, 0, 0, 0, 12), -2);
        due("10: the last actor", two.palm(0, 0, 0, 0, 20), 0);
        due("10: the next is none", two.palm(0, 0, 0, 0, 21), -2);
        due("10: the next is none", two.palm(0, 0, 0, 2, 0), -2);
        due("10: no palms", Checks.bank("", "").palm(0, 0, 0, 0, 0), -2);
    }

    private static void actorOfWhat() {
        ClapBank bank = Checks.bank(FULL + "chest 0;", "storm 5 2;");
        int[] want = {64, 1, 6, 0, NONE, 0, 10, 4};
        for (int what = -12; what < 40; what++) {
            boolean told = what >= 0 && what < want.length;
            due("11: what " + what, bank.actor(0, 0, 1, 5, what), told ? want[what] : -2);
        }
        for (int a : new int[] {-1, 6, 7, Integer.MIN_VALUE, Integer.MAX_VALUE}) {
            due("11: no such actor", bank.actor(0, 0, 1, a, 0), -2);
        }
        due("11: another what", bank.actor(0, 0, 1, 5, Integer.MIN_VALUE), -2);
        due("11: another what", bank.actor(0, 0, 1, 5, Integer.MAX_VALUE), -2);
        due("11: no actors", Checks.bank("", "").actor(0, 0, 0, 0, 0), -2);
        ClapBank starved = Checks.bank("actor 10 9;", "encore;night;");
        int[] then = {9, 0, 0, 0, 0, 0, 0, 0};
        for (int what = 0; what < then.length; what++) {
            due("11: of one who starved " + what, starved.actor(0, 0, 2, 0, what), then[what]);
        }
        ClapBank hungry = Checks.bank("actor 10 100;actor 1 9;chest 9;", "night;");
        int[] rich = {100, 0, 0, 0, 0, 0, 0, 0};
        for (int what = 0; what < rich.length; what++) {
            due("11: of one who starved by the chest " + what, hungry.actor(0, 0, 1, 0, what), rich[what]);
        }
        ClapBank stormy = Checks.bank("actor 40 1;", "storm 0 3;night;");
        due("11: his storms stay", stormy.actor(0, 0, 2, 0, 7), 6);
        due("11: his savings stay", stormy.actor(0, 0, 2, 0, 0), 7);
    }

    private static void friday(String theatre, int... want) {
        ClapBank bank = Checks.bank(theatre, "");
        for (int a = 0; a < want.length; a++) {
            due("11: friday of " + a + ", " + theatre, bank.actor(0, 0, 0, a, 5), want[a]);
        }
        due("11: no night has been, " + theatre, bank.state(0, 0, 0, 2), 0);
    }

    private static void fridays() {
        friday("actor 4 3;", 0);
        friday("actor 4 4;", 1);
        friday("actor 4 391;", 97);
        friday("actor 4 392;", 98);
        friday("actor 4 395;", 98);
        friday("actor 4 396;", 99);
        friday("actor 4 400;", 99);
        friday("actor 1 400;", 99);
        friday("actor 0 0;chest 0;", 99);
        friday("actor 4 400;chest 3;", 0);
        friday("actor 4 400;chest 8;", 2);
        friday("actor 4 400;actor 4 400;chest 12;", 2, 1);
        friday("actor 4 0;actor 4 400;chest 12;", 0, 3);
        friday("actor 4 4;actor 4 400;chest 12;", 1, 2);
        friday("actor 10 30;rate 50;", 99);
        friday("actor 10 29;rate 50;", 7);
        ClapBank bank = Checks.bank("actor 10 33;", "encore;");
        due("11: by prices as they are", bank.actor(0, 0, 0, 0, 5), 3);
        due("11: by prices as they are", bank.actor(0, 0, 1, 0, 5), 3);
        due("11: by prices as they are", Checks.bank("actor 10 32;", "encore;").actor(0, 0, 1, 0, 5), 2);
    }

    private static void star(String theatre, int... want) {
        ClapBank bank = Checks.bank(theatre, "");
        for (int a = 0; a < want.length; a++) {
            due("11: star of " + a + ", " + theatre, bank.actor(0, 0, 0, a, 6), want[a]);
        }
    }

    private static void stars() {
        star("actor 4 3;", 0);
        star("actor 4 4;chest 0;", 1);
        star("actor 4 392;chest 0;", 98);
        star("actor 4 395;", 98);
        star("actor 4 396;", 99);
        star("actor 4 400;chest 3;", 99);
        star("actor 0 0;chest 0;", 99);
        star("actor 4 400;actor 4 40;chest 12;", 99, 10);
        star("actor 10 30;rate 50;chest 0;", 99);
        star("actor 10 29;rate 50;chest 0;", 7);
        star("actor 40 400;rate 50;", 99);
    }

    private static void run(String theatre, int doomed, int danger) {
        ClapBank bank = Checks.bank(theatre, "");
        due("12: doomed, " + theatre, bank.run(0, 0, 0, 0), doomed);
        due("12: danger, " + theatre, bank.run(0, 0, 0, 1), danger);
        for (int what : new int[] {-1, 2, 3, Integer.MIN_VALUE, Integer.MAX_VALUE}) {
            due("12: another what", bank.run(0, 0, 0, what), -2);
        }
    }

    private static void runs() {
        run("", 0, 0);
        run("actor 0 0;chest 0;", 0, 0);
        run("actor 5 5;chest 5;", 0, 0);
        run("actor 5 5;chest 4;", 1, 1);
        run("actor 5 4;chest 5;", 1, 1);
        run("actor 5 5;actor 4 4;chest 9;", 0, 0);
        run("actor 5 5;actor 4 4;chest 8;", 0, 3);
        run("actor 5 5;actor 4 4;chest 5;", 0, 3);
        run("actor 5 5;actor 4 4;chest 4;", 1, 1);
        run("actor 5 5;actor 4 4;chest 3;", 3, 3);
        run("actor 5 4;actor 4 4;chest 4;", 1, 1);
        run("actor 5 5;actor 4 4;actor 0 0;chest 5;", 0, 3);
        run("actor 3 3;actor 2 2;actor 1 1;chest 5;", 0, 7);
        run("actor 6 6;actor 2 2;actor 1 1;chest 8;", 0, 7);
        run("actor 6 6;actor 4 4;actor 1 1;chest 9;", 0, 3);
        run("actor 1 1;".repeat(6) + "chest 6;", 0, 0);
        run("actor 1 1;".repeat(6) + "chest 5;", 0, 63);
        run("actor 1 1;".repeat(6) + "chest 0;", 63, 63);
        run("actor 1 0;".repeat(6), 63, 63);
        ClapBank bank = Checks.bank("actor 5 4;actor 5 9;chest 9;", "night;");
        due("12: before", bank.run(0, 0, 0, 0), 1);
        due("12: of those who live", bank.run(0, 0, 1, 0), 2);
        due("12: of those who live", bank.run(0, 0, 1, 1), 2);
    }

    private static void needs() {
        int[][] rows = {{10, 9, 1}, {10, 10, 0}, {10, 11, 0}, {10, 0, 10}, {0, 0, 0}, {40, 0, 40}, {40, 400, 0}};
        for (int[] row : rows) {
            ClapBank bank = Checks.bank("chest 0;actor " + row[0] + " " + row[1] + ";", "");
            due("11: need of " + row[0] + " with " + row[1], bank.actor(0, 0, 0, 0, 3), row[2]);
        }
        ClapBank dear = Checks.bank("actor 40 0;", "encore;".repeat(30));
        due("11: the greatest need", dear.actor(0, 0, 30, 0, 3), 160);
    }

    private static void feast(String theatre, String book, int... want) {
        ClapBank bank = Checks.bank(theatre, book);
        int n = bank.stop(0, 0);
        for (int what = 0; what < 4; what++) {
            due("13: feast " + what + " of " + theatre + " / " + book, bank.feast(0, 0, n, what), want[what]);
        }
        for (int what : new int[] {-1, 4, 5, Integer.MIN_VALUE, Integer.MAX_VALUE}) {
            due("13: another what", bank.feast(0, 0, n, what), -2);
        }
    }

    private static void feastsEmptyAndFull() {
        feast("", "", 0, 0, 0, 0);
        feast("palm 9 2;", "", 0, 0, 0, 0);
        feast("actor 1 0;", "", 0, 0, 0, 0);
        feast("actor 0 0;".repeat(6) + "chest 0;", "", 6, 63, 0, 0);
        feast("actor 1 0;".repeat(6) + "palm 5 1;palm 1 2;", "", 6, 63, 1, 5);
        feast("actor 1 0;".repeat(6) + "palm 5 1;", "", 5, 31, 0, 5);
        feast("actor 40 0;".repeat(6) + "palm 99 2;palm 99 1;", "", 6, 63, 99, 42);
        feast("actor 40 0;".repeat(6) + "palm 99 2;palm 41 1;", "", 5, 31, 99, 2);
        feast("palm 9 2;actor 9 0;", "night;", 0, 0, 0, 0);
        feast("palm 9 2;actor 4 0;actor 4 4;", "night;", 1, 2, 2, 0);
    }

    private static void feastsExact() {
        feast("palm 2 2;actor 4 0;", "", 1, 1, 2, 0);
        feast("palm 1 2;actor 4 0;", "", 0, 0, 0, 0);
        feast("palm 4 1;actor 4 0;", "", 1, 1, 0, 4);
        feast("palm 3 1;actor 4 0;", "", 0, 0, 0, 0);
        feast("palm 2 1;palm 0 2;palm 2 1;actor 4 0;", "", 1, 1, 0, 4);
        feast("palm 1 2;palm 0 1;palm 1 2;actor 4 0;", "", 1, 1, 2, 0);
        feast("palm 1 2;palm 2 1;actor 4 0;", "", 1, 1, 1, 2);
        feast("palm 1 2;palm 1 1;actor 4 0;", "", 0, 0, 0, 0);
        feast("palm 1 2;palm 1 2;actor 3 0;", "", 1, 1, 2, 0);
        feast("palm 2 2;palm 1 1;actor 3 0;", "", 1, 1, 1, 1);
        feast("palm 2 2;actor 4 0;chest 0;", "", 1, 1, 2, 0);
        feast("palm 2 2;actor 4 1;", "hush 0 0 1;", 0, 0, 0, 0);
        feast("palm 2 2;palm 4 1;actor 4 1;", "hush 0 0 1;", 1, 1, 0, 4);
        feast("palm 3 2;actor 6 0;", "clap 0 0 1;", 1, 1, 2, 0);
        feast("palm 3 1;actor 4 0;", "clap 0 0 1;", 0, 0, 0, 0);
        feast("palm 3 1;actor 3 0;", "clap 0 0 1;", 1, 1, 0, 2);
        feast("palm 2 1;palm 1 2;actor 4 0;", "lend 1 0 1;", 0, 0, 0, 0);
    }

    /** One state's feast leaves nothing on the table for the next one's. */
    private static void feastsInTurn() {
        ClapBank bank = Checks.bank("palm 1 2;palm 1 1;actor 3 1;actor 9 9;", "hush 0 0 1;hush 1 0 1;hush 1 1 1;night;");
        int[][] want = {{2, 3, 1, 0}, {1, 2, 0, 0}, {1, 2, 0, 1}, {0, 0, 0, 0}, {0, 0, 0, 0}};
        int[] all = {0, 3, 2, 3, 0, 4, 2, 4, 1, 2, 0, 1, 0};
        for (int n : all) {
            for (int what = 0; what < 4; what++) {
                due("13: in turn, behind " + n + " what " + what, bank.feast(0, 0, n, what), want[n][what]);
            }
        }
    }

    private static void feastsTied() {
        feast("palm 1 1;actor 1 0;actor 1 0;", "", 1, 1, 0, 1);
        feast("palm 2 1;actor 2 0;actor 1 0;", "", 1, 2, 0, 1);
        feast("palm 2 2;palm 1 1;actor 4 0;actor 3 0;", "", 1, 2, 1, 1);
        feast("palm 2 2;palm 1 1;actor 3 0;actor 4 0;", "", 1, 1, 1, 1);
        feast("palm 1 2;actor 2 0;actor 1 0;", "", 1, 1, 1, 0);
        feast("palm 2 2;actor 9 0;actor 2 0;actor 2 0;actor 1 0;", "", 2, 6, 2, 0);
        feast("palm 2 1;actor 9 0;actor 2 0;actor 1 0;actor 1 0;", "", 2, 12, 0, 2);
    }

    private static void fair(String theatre, String book, int above, int below) {
        ClapBank bank = Checks.bank(theatre, book);
        int n = bank.stop(0, 0);
        due("14: fair of " + theatre + " / " + book, bank.fair(0, 0, n, false), above);
        due("14: under it, " + theatre + " / " + book, bank.fair(0, 0, n, true), below);
    }

    private static void fairs() {
        fair("palm 1 1;actor 1 0;", "", 1, 1);
        fair("palm 0 1;actor 1 0;", "", -2, -2);
        fair("actor 1 0;", "", -2, -2);
        fair("", "", -2, -2);
        fair("palm 1 1;actor 1 0;", "clap 0 0 1;", -2, -2);
        fair("palm 2 1;actor 9 0;", "clap 0 0 1;", 8, 1);
        fair("palm 7 1;", "", 0, 1);
        fair("palm 7 1;actor 3 3;", "", 0, 1);
        fair("palm 7 1;actor 3 2;", "night;", 0, 1);
        fair("palm 9 2;actor 6 0;", "", 2, 3);
        fair("palm 6 1;actor 9 0;", "", 3, 2);
        fair("palm 6 1;actor 12 0;", "", 2, 1);
        fair("palm 6 1;actor 12 1;", "hush 0 0 1;", 2, 1);
        fair("palm 99 2;".repeat(5) + "actor 40 0;".repeat(6), "", 16, 33);
        fair("palm 99 2;".repeat(5) + "actor 40 0;".repeat(6), "encore;".repeat(30), 64, 33);
        fair("palm 3 1;actor 2 0;actor 2 9;", "", 2, 3);
    }

    private static void loan(String book, int want) {
        ClapBank bank = Checks.bank("palm 9 1;".repeat(5), book);
        due("22: loan of " + book, bank.look(0, 0, bank.stop(0, 0), 0), want);
    }

    private static void loans() {
        loan("", NONE);
        loan("lend 0 4 1;", 4);
        loan("lend 4 0 1;", 0);
        loan("lend 4 0 1;repay 0 4 1;", NONE);
        loan("lend 0 4 1;lend 0 3 1;", 3);
        loan("lend 0 4 2;lend 0 3 1;", 4);
        loan("lend 0 4 1;lend 1 4 1;lend 0 3 1;", 4);
        loan("lend 0 4 1;lend 1 4 1;lend 0 3 2;", 3);
        loan("lend 0 4 1;lend 4 0 1;", 0);
        due("22: no palms", Checks.bank("", "").look(0, 0, 0, 0), NONE);
    }

    private static void idol(String book, int want) {
        ClapBank bank = Checks.bank("palm 9 1;palm 9 2;" + "actor 0 0;".repeat(6), book);
        due("22: idol of " + book, bank.look(0, 0, bank.stop(0, 0), 1), want);
    }

    private static void idols() {
        idol("", NONE);
        idol("clap 0 5 1;", 5);
        idol("clap 0 5 1;clap 0 4 1;", 4);
        idol("clap 0 5 1;clap 1 4 1;", 4);
        idol("clap 0 5 2;clap 1 4 1;", 4);
        idol("clap 0 5 3;clap 1 4 1;", 5);
        idol("clap 0 5 1;clap 0 5 1;clap 1 4 1;", 5);
        idol("clap 0 5 1;night;clap 1 5 1;clap 1 4 1;", 5);
        due("22: no actors", Checks.bank("palm 1 1;", "").look(0, 0, 0, 1), NONE);
        ClapBank starved = Checks.bank("palm 9 1;actor 9 0;actor 0 0;", "clap 0 0 2;clap 0 1 1;night;");
        due("22: the idol may have starved", starved.look(0, 0, 3, 1), 0);
    }

    private static void tip(String theatre, int a, int want) {
        due("22: tip of " + a + ", " + theatre, Checks.bank(theatre, "").look(0, 0, 0, 10 + a), want);
    }

    private static void tips() {
        tip("actor 10 10;chest 10;", 0, 0);
        tip("actor 10 9;", 0, 1);
        tip("actor 10 8;", 0, 1);
        tip("actor 10 7;", 0, 2);
        tip("actor 40 0;", 0, 20);
        tip("actor 0 0;chest 0;", 0, 0);
        tip("actor 10 10;chest 9;", 0, 1);
        tip("actor 10 10;chest 8;", 0, 1);
        tip("actor 10 10;chest 7;", 0, 2);
        tip("actor 10 4;chest 0;", 0, 5);
        tip("actor 4 4;actor 4 4;chest 7;", 1, 1);
        tip("actor 4 4;actor 4 4;chest 8;", 1, 0);
        tip("actor 4 4;actor 4 4;chest 4;", 1, 2);
        tip("actor 2 2;actor 10 10;chest 11;", 1, 1);
        tip("actor 2 1;actor 10 10;chest 11;", 1, 0);
        tip("actor 4 4;actor 4 4;chest 3;", 1, 3);
        tip("actor 4 3;actor 4 4;chest 4;", 1, 0);
        tip("actor 4 4;actor 4 4;chest 4;", 0, 0);
        tip("actor 6 9;actor 4 4;chest 4;", 1, 0);
        String ahead = "chest 0;" + "actor 40 400;".repeat(3);
        tip(ahead + "actor 37 400;actor 40 0;", 4, 99);
        tip(ahead + "actor 38 400;actor 40 0;", 4, 99);
        tip(ahead + "actor 39 400;actor 40 0;", 4, NONE);
        tip(ahead + "actor 36 400;actor 40 0;", 4, 98);
        ClapBank dear = Checks.bank("actor 40 0;", "encore;".repeat(30));
        due("22: the dearest tip for one alone", dear.look(0, 0, 30, 10), 80);
        ClapBank starved = Checks.bank("actor 10 9;actor 1 9;", "night;");
        due("22: tip of one who starved", starved.look(0, 0, 1, 10), NONE);
        due("22: tip of one who lives", starved.look(0, 0, 1, 11), 0);
        ClapBank gone = Checks.bank("actor 9 99;actor 4 99;chest 5;", "night;storm 1 4;night;");
        due("22: he ahead starves", gone.look(0, 0, 0, 11), 0);
        due("22: he ahead starved, with enough saved", gone.look(0, 0, 1, 11), 2);
        due("22: he ahead starved, and does not eat any more", gone.look(0, 0, 2, 11), 0);
    }

    private static void dear(int hunger, int saved, int encores, int want) {
        ClapBank bank = Checks.bank("chest 0;actor " + hunger + " " + saved + ";", "encore;".repeat(encores));
        due("22: dear of " + hunger + " " + saved + " " + encores, bank.look(0, 0, encores, 20), want);
    }

    private static void dears() {
        int[][] rows = {{10, 0, 0, 0}, {10, 8, 0, 0}, {10, 9, 0, 0}, {10, 10, 0, 1}, {10, 19, 0, 10}, {10, 106, 0, 97},
            {10, 107, 0, 98}, {10, 108, 0, 99}, {10, 109, 0, 99}, {10, 400, 0, 99}, {0, 0, 0, 99}, {0, 0, 30, 99},
            {1, 1, 0, 10}, {1, 1, 9, 1}, {1, 1, 10, 0}, {10, 109, 1, 99}, {10, 108, 1, 98}, {10, 108, 30, 69},
            {40, 160, 30, 1}, {40, 159, 30, 0}, {9, 9, 0, 2}};
        for (int[] row : rows) {
            dear(row[0], row[1], row[2], row[3]);
        }
        ClapBank starved = Checks.bank("actor 10 20;chest 9;", "night;");
        due("22: dear of one who lives", starved.look(0, 0, 0, 20), 11);
        due("22: dear of one who starved", starved.look(0, 0, 1, 20), 0);
    }

    private static void looksOfWhat() {
        ClapBank bank = Checks.bank(FULL, "clap 0 5 1;lend 0 4 1;");
        for (int what = -12; what < 50; what++) {
            boolean told = what == 0 || what == 1 || what >= 10 && what <= 15 || what >= 20 && what <= 25;
            due("22: what " + what, bank.look(0, 0, 2, what) == -2 ? 0 : 1, told ? 1 : 0);
        }
        due("22: loan", bank.look(0, 0, 2, 0), 4);
        due("22: idol", bank.look(0, 0, 2, 1), 5);
        due("22: the last one's tip", bank.look(0, 0, 2, 15), 0);
        due("22: the last one's dear", bank.look(0, 0, 2, 25), 94);
        due("22: another what", bank.look(0, 0, 2, Integer.MIN_VALUE), -2);
        due("22: another what", bank.look(0, 0, 2, Integer.MAX_VALUE), -2);
        ClapBank one = Checks.bank("actor 1 1;", "");
        due("22: the only one", one.look(0, 0, 0, 10), 0);
        due("22: the only one", one.look(0, 0, 0, 20), 10);
        due("22: no such actor", one.look(0, 0, 0, 11), -2);
        due("22: no such actor", one.look(0, 0, 0, 21), -2);
    }

    private static void silence(String theatre, String book, int who, int many) {
        ClapBank bank = Checks.bank(theatre, book);
        due("23: silence of " + theatre + " / " + book, bank.silence(0, 0, false), who);
        due("23: how many of " + theatre + " / " + book, bank.silence(0, 0, true), many);
    }

    private static void silences() {
        silence("palm 1 1;", "", 0, 0);
        silence("palm 1 1;".repeat(5), "night;", 0, 0);
        silence("palm 9 1;".repeat(5) + "actor 1 0;", "clap 4 0 1;night;", 4, 1);
        silence("palm 9 1;".repeat(5) + "actor 1 0;", "clap 3 0 1;clap 4 0 1;night;", 0, 0);
        silence("palm 9 1;".repeat(5) + "actor 1 0;actor 1 0;", "clap 3 0 1;clap 4 1 1;night;", 3, 1);
        silence("palm 9 1;palm 9 1;" + "actor 1 0;".repeat(6), "night;", 0, 6);
        silence("palm 1 1;palm 1 1;actor 1 0;", "clap 1 0 2;night;", 0, 0);
        silence("palm 1 1;palm 1 1;actor 1 0;", "night;clap 1 0 1;night;", 0, 1);
        silence("palm 1 1;actor 1 1;", "hush 0 0 1;night;", 0, 1);
        silence("palm 9 1;palm 9 1;actor 2 0;actor 0 9;", "hush 1 1 1;clap 0 0 2;night;", 0, 1);
        silence("palm 9 1;palm 9 1;actor 2 0;", "storm 0 1;night;", 0, 0);
        // Without 1 nothing is lent, so that 0 can't repay, nor clap twelve: a deed that can't be is left out, no more.
        silence("palm 9 1;palm 9 1;actor 1 0;", "lend 1 0 3;clap 0 0 12;night;", 0, 1);
        silence("palm 0 1;palm 9 1;actor 1 0;", "lend 1 0 1;clap 0 0 1;night;", 0, 1);
        silence("palm 9 1;palm 0 1;palm 9 1;actor 1 0;", "lend 2 1 1;clap 1 0 1;encore;night;", 1, 1);
        // With 1 left out the claps of 0 are right behind each other, and echo.
        silence("palm 9 1;palm 9 1;actor 3 0;actor 1 0;", "clap 0 0 1;clap 1 1 1;clap 0 0 1;night;", 0, 1);
        silence("palm 9 1;palm 9 1;actor 3 0;actor 0 0;", "clap 0 0 1;clap 1 1 1;clap 0 0 1;night;", 0, 1);
        silence("palm 9 1;palm 9 1;palm 9 1;actor 3 0;actor 0 0;", "clap 2 0 1;clap 1 1 1;clap 2 0 1;night;", 0, 1);
    }

    private static void silencesOfNone() {
        silence("", "", NONE, NONE);
        silence("actor 1 0;", "night;", NONE, NONE);
        ClapBank bank = Checks.bank("palm 1 1;", "");
        for (int far : FAR) {
            for (boolean many : new boolean[] {false, true}) {
                due("23: no such theatre", bank.silence(far, 0, many), NONE);
                due("23: no such book", bank.silence(0, far, many), NONE);
            }
        }
        due("23: nothing is told", new ClapBank().silence(0, 0, false), NONE);
    }

    /** Some answers of each kind: no question, answered or refused, may change one of them. */
    private static int[] someOf(ClapBank bank, int n) {
        return new int[] {
            bank.stop(0, 0), bank.state(0, 0, n, 0), bank.state(0, 0, n, 3), bank.state(0, 0, n, 4), bank.palm(0, 0, n, 4, 0),
            bank.palm(0, 0, n, 4, 10), bank.palm(0, 0, n, 0, 25), bank.actor(0, 0, n, 5, 0), bank.actor(0, 0, n, 5, 5),
            bank.actor(0, 0, n, 5, 6), bank.run(0, 0, n, 1), bank.feast(0, 0, n, 1), bank.fair(0, 0, n, true),
            bank.look(0, 0, n, 0), bank.look(0, 0, n, 1), bank.look(0, 0, n, 15), bank.look(0, 0, n, 25),
            bank.silence(0, 0, true), bank.drawn(0, 7, 20, 15), bank.ask(0, 0, 9), (int) bank.ways(0, 0),
            bank.whose(0, 0, 0, true), bank.theatre(0, 3), bank.deed(0, 1, 3), bank.heard(0, 0), bank.fault(0), bank.count(0)};
    }

    private static void questionsLeaveAll() {
        ClapBank bank = Checks.bank(FULL + "usurer 9 1;usurer 5 2;borrow 3;rate 9;chest 60;",
            "lend 0 4 1;clap 0 5 2;hush 1 1 3;night;clap 4 5 1;encore;clap 0 0 99;");
        Checks.tell(bank, 2, NONE, "heard 5;heard 3;");
        Checks.tell(bank, 0, 0, "x");
        int[] first = someOf(bank, 6);
        someOf(bank, 0);
        someOf(bank, 7);
        for (int far : FAR) {
            noState("far", bank, far, far, far);
            bank.ask(0, far, far);
            bank.taken(0, far, far);
            bank.whose(0, 0, far, false);
            bank.drawn(0, far, far, far);
            bank.silence(far, far, false);
        }
        due("no question changes an answer", Arrays.equals(first, someOf(bank, 6)) ? 1 : 0, 1);
    }
}
