import java.util.Arrays;

/** The edges of what is told: the document's Terms 1, and promises 1 to 7, 18, 24 to 26, sentence by sentence. */
public final class ToldEdgeTest {
    private static final Checks checks = new Checks();
    private static final int NONE = ClapBank.NONE;
    private static final int[] FAR = {Integer.MIN_VALUE, -3, -2, 2, 3, Integer.MAX_VALUE};
    private static final String[][] LINES = {
        {"palm 1 2;", "actor 1 2;", "usurer 2 1;", "rate 1;", "chest 1;", "borrow 1;"},
        {"clap 0 1 2;", "lend 0 1 2;", "repay 0 1 2;", "hush 0 1 2;", "storm 0 1;", "encore;", "night;"},
        {"heard 1;"}};
    /** Five palms, six actors, four usurers: as many as may be. */
    private static final String FULL = "palm 0 1;palm 99 2;palm 3 1;palm 4 2;palm 5 1;"
        + "actor 0 400;actor 40 0;actor 1 2;actor 3 4;actor 5 6;actor 7 8;"
        + "usurer 30 0;usurer 30 30;usurer 0 0;usurer 9 8;rate 50;chest 0;borrow 20;";

    public static void main(String[] args) {
        numbersOfTheatres();
        numbersOfBooks();
        numbersOfDarks();
        howManyPalmsActorsUsurers();
        howManyDeeds();
        howManyMinutes();
        atFirst();
        laterOnesStrike();
        bytesBehindWords();
        bytesAtFirst();
        bytesBehindDigits();
        bytesBetweenDigits();
        rowsOfDigits();
        rowsOfLetters();
        otherLetters();
        cutTexts();
        numbersTooFewTooMany();
        linesOfOtherSorts();
        faultOneOutdoesAll();
        faultsByPlace();
        fullTape();
        feedBeyondTheTape();
        bytesInOrder();
        ends();
        placesOfTexts();
        noSuchSort();
        refusedTextLeavesAll();
        faultyTextLeavesAll();
        faultOfWhat();
        theatreOfWhat();
        deedOfWhat();
        heardOfWhich();
        countOfSort();
        imagesOfOtherNumbers();
        imageOfNothing();
        imageOfAll();
        imagesOfCounts();
        imagesStandAlone();
        checks.finish();
    }

    private static void due(String call, long got, long want) {
        checks.due(call, got, want);
    }

    private static void fault(int sort, String text, int fault, int place) {
        checks.fault(sort, text, fault, place);
    }

    /** A number of a theatre's line may be least .. most, and is told so; the next ones on both sides can't be. */
    private static void ofTheatre(String head, int least, int most, String tail, int what) {
        for (int told : new int[] {least, most}) {
            due("6: " + head + told, Checks.bank(head + told + tail, "").theatre(0, what), told);
        }
        nextOnesCannotBe(0, head, least, most, tail);
    }

    private static void ofDeed(String head, int least, int most, String tail, int what) {
        for (int told : new int[] {least, most}) {
            due("7: " + head + told, Checks.bank("", head + told + tail).deed(0, 0, what), told);
        }
        nextOnesCannotBe(1, head, least, most, tail);
    }

    private static void nextOnesCannotBe(int sort, String head, int least, int most, String tail) {
        if (least > 0) {
            fault(sort, head + (least - 1) + tail, 2, head.length());
        }
        fault(sort, head + (most + 1) + tail, 2, head.length());
        fault(sort, head + 999 + tail, 2, head.length());
    }

    private static void numbersOfTheatres() {
        ofTheatre("palm ", 0, 99, " 1;", 10);
        ofTheatre("palm 5 ", 1, 2, ";", 20);
        ofTheatre("actor ", 0, 40, " 1;", 30);
        ofTheatre("actor 5 ", 0, 400, ";", 40);
        ofTheatre("rate ", 0, 50, ";", 2);
        ofTheatre("usurer ", 0, 30, " 0;", 50);
        ofTheatre("usurer 30 ", 0, 30, ";", 60);
        ofTheatre("usurer 0 ", 0, 0, ";", 60);
        ofTheatre("usurer 17 ", 0, 17, ";", 60);
        ofTheatre("borrow ", 0, 20, ";", 5);
        for (int chest : new int[] {0, 999}) {
            due("6: chest " + chest, Checks.bank("chest " + chest + ";", "").theatre(0, 3), chest);
        }
        fault(0, "chest 1000;", 1, 6);
        fault(0, "usurer 31 31;", 2, 7);
        fault(0, "usurer 31 5;", 2, 7);
        fault(0, "usurer 30 31;", 2, 10);
    }

    private static void numbersOfBooks() {
        ofDeed("clap ", 0, 4, " 5 1;", 1);
        ofDeed("clap 4 ", 0, 5, " 1;", 2);
        ofDeed("clap 4 5 ", 1, 99, ";", 3);
        ofDeed("hush ", 0, 5, " 4 1;", 1);
        ofDeed("hush 5 ", 0, 4, " 1;", 2);
        ofDeed("hush 5 4 ", 1, 99, ";", 3);
        ofDeed("storm ", 0, 5, " 1;", 1);
        ofDeed("storm 5 ", 1, 99, ";", 2);
        for (String word : new String[] {"lend ", "repay "}) {
            ofDeed(word, 0, 4, " 2 1;", 1);
            ofDeed(word + "2 ", 0, 4, " 1;", 2);
            ofDeed(word + "0 4 ", 1, 99, ";", 3);
            for (int p = 0; p < 5; p++) {
                for (int q = 0; q < 5; q++) {
                    fault(1, word + p + " " + q + " 1;", p == q ? 2 : 0, p == q ? word.length() + 2 : NONE);
                }
            }
            fault(1, word + "5 5 1;", 2, word.length());
        }
        fault(1, "clap 3 3 1;hush 3 3 1;storm 3 3;", 0, NONE);
    }

    private static void numbersOfDarks() {
        for (int halves : new int[] {0, 10}) {
            ClapBank bank = new ClapBank();
            due("4: heard " + halves, Checks.tell(bank, 2, NONE, "heard " + halves + ";"), 0);
            due("18: heard " + halves, bank.heard(0, 0), halves);
        }
        nextOnesCannotBe(2, "heard ", 0, 10, ";");
    }

    private static void howManyPalmsActorsUsurers() {
        String[] lines = {"palm 1 1;", "actor 0 0;", "usurer 0 0;"};
        String[] wrong = {"palm 100 1;", "actor 41 0;", "usurer 0 1;"};
        int[] most = {5, 6, 4};
        int[] what = {0, 1, 4};
        for (int i = 0; i < 3; i++) {
            due("6: none", Checks.bank("", "").theatre(0, what[i]), 0);
            String all = lines[i].repeat(most[i]);
            due("6: as many as may be", Checks.bank(all, "").theatre(0, what[i]), most[i]);
            fault(0, all + lines[i], 3, all.length());
            fault(0, all + " \n" + lines[i], 3, all.length() + 2);
            fault(0, all + lines[i] + lines[i], 3, all.length());
            fault(0, all + wrong[i], 3, all.length());
            int first = wrong[i].equals("usurer 0 1;") ? 9 : wrong[i].indexOf(' ') + 1;
            fault(0, wrong[i] + all, 2, first);
        }
        fault(0, FULL, 0, NONE);
        for (int i = 0; i < 3; i++) {
            fault(0, FULL + lines[i], 3, FULL.length());
        }
        fault(0, FULL + "rate 1;chest 1;borrow 1;", 0, NONE);
    }

    private static void howManyDeeds() {
        due("7: none", Checks.bank("", "").deed(0, NONE, 0), 0);
        for (String line : LINES[1]) {
            due("7: 30 deeds", Checks.bank("", "night;".repeat(29) + line).deed(0, NONE, 0), 30);
            fault(1, "night;".repeat(30) + line, 3, 180);
        }
        fault(1, "night;".repeat(30) + "clap 5 0 1;", 3, 180);
        fault(1, "clap 5 0 1;" + "night;".repeat(30), 2, 5);
        fault(1, "night;".repeat(32), 3, 180);
    }

    private static void howManyMinutes() {
        ClapBank bank = new ClapBank();
        Checks.tell(bank, 2, NONE, "");
        due("18: none", bank.heard(0, NONE), 0);
        Checks.tell(bank, 2, NONE, "heard 3;".repeat(6));
        due("18: six", bank.heard(1, NONE), 6);
        fault(2, "heard 3;".repeat(7), 3, 48);
        fault(2, "heard 3;".repeat(6) + "heard 11;", 3, 48);
        fault(2, "heard 11;" + "heard 3;".repeat(6), 2, 6);
    }

    private static void atFirst() {
        ClapBank bank = Checks.bank("", "");
        int[] want = {0, 0, 0, 999, 0, 0};
        for (int what = 0; what < want.length; what++) {
            due("6: at first " + what, bank.theatre(0, what), want[what]);
        }
        Checks.tell(bank, 0, NONE, "rate 3;chest 4;borrow 5;palm 1 1;actor 1 1;usurer 1 1;");
        Checks.tell(bank, 0, 1, "");
        for (int what = 0; what < want.length; what++) {
            due("6: nothing is left of the one before " + what, bank.theatre(1, what), want[what]);
        }
    }

    private static void laterOnesStrike() {
        ClapBank bank = Checks.bank("rate 50;chest 999;borrow 20;rate 0;chest 0;borrow 0;", "");
        due("6: the later rate", bank.theatre(0, 2), 0);
        due("6: the later chest", bank.theatre(0, 3), 0);
        due("6: the later borrowers", bank.theatre(0, 5), 0);
        fault(0, "rate 51;rate 1;", 2, 5);
        fault(0, "borrow 21;borrow 1;", 2, 7);
        ClapBank further = Checks.bank("palm 1 1;palm 2 2;actor 3 3;actor 4 4;usurer 5 5;usurer 6 6;", "night;night;");
        int[][] want = {{0, 2}, {1, 2}, {4, 2}, {10, 1}, {11, 2}, {30, 3}, {31, 4}, {50, 5}, {51, 6}};
        for (int[] pair : want) {
            due("6: further ones " + pair[0], further.theatre(0, pair[0]), pair[1]);
        }
        due("7: further ones", further.deed(0, NONE, 0), 2);
    }

    private static boolean isBlank(int b) {
        return b == 10 || b == 32;
    }

    private static boolean isLetter(int b) {
        return b >= 97 && b <= 122;
    }

    private static boolean isDigit(int b) {
        return b >= 48 && b <= 57;
    }

    private static void bytesBehindWords() {
        for (int b = 0; b < 256; b++) {
            String text = "night" + (char) b + ";";
            if (isBlank(b)) {
                fault(1, text, 0, NONE);
            } else {
                fault(1, text, 1, isLetter(b) ? 0 : b == ';' ? 6 : 5);
            }
        }
    }

    private static void bytesAtFirst() {
        for (int b = 0; b < 256; b++) {
            fault(1, (char) b + "night;", isBlank(b) ? 0 : 1, isBlank(b) ? NONE : 0);
            fault(1, "night;" + (char) b, isBlank(b) ? 0 : 1, isBlank(b) ? NONE : 6);
        }
    }

    private static void bytesBehindDigits() {
        for (int b = 0; b < 256; b++) {
            boolean good = isBlank(b) || isDigit(b);
            fault(0, "rate 1" + (char) b + ";", good ? 0 : 1, good ? NONE : b == ';' ? 7 : 6);
        }
    }

    private static void bytesBetweenDigits() {
        for (int b = 0; b < 256; b++) {
            String text = "rate 1" + (char) b + "2;";
            if (isDigit(b)) {
                fault(0, text, 2, 5);
            } else {
                fault(0, text, 1, isBlank(b) || b == ';' ? 7 : 6);
            }
        }
    }

    private static void rowsOfDigits() {
        for (String five : new String[] {"5", "05", "005"}) {
            due("6: rate " + five, Checks.bank("rate " + five + ";", "").theatre(0, 2), 5);
        }
        fault(0, "rate 0005;", 1, 5);
        fault(0, "rate 00000000000000000005;", 1, 5);
        fault(0, "rate 4294967296;", 1, 5);
        fault(0, "chest 999;", 0, NONE);
        fault(0, "palm 1 0001;", 1, 7);
        fault(0, "rate 1;1000", 1, 7);
        fault(0, "1000", 1, 0);
        fault(0, "rate 1 1000;", 1, 7);
        fault(0, "palm1 2;palm2 1;rate3;", 0, NONE);
        fault(0, "palm 12;", 1, 7);
        fault(2, "heard010;heard\n0 ;", 0, NONE);
    }

    private static void rowsOfLetters() {
        fault(1, "nightnight;", 1, 0);
        fault(1, "night night;", 1, 6);
        fault(1, "nigh t;", 1, 0);
        fault(1, "nightt;", 1, 0);
        fault(1, "nigh;", 1, 0);
        fault(1, "Night;", 1, 0);
        fault(1, "nighT;", 1, 0);
        fault(1, "night;encore;", 0, NONE);
        fault(1, "\n\n night \n;\n encore ; ", 0, NONE);
        fault(0, "rate 1x;", 1, 6);
        fault(0, "rate x1;", 1, 5);
        fault(0, "rate rate;", 1, 5);
    }

    /** A word with another letter anywhere, the ones next to a and z among them, is no word of a text. */
    private static void otherLetters() {
        for (int sort = 0; sort < 3; sort++) {
            for (String line : LINES[sort]) {
                for (int at = 0; at < line.length() && isLetter(line.charAt(at)); at++) {
                    for (char other : new char[] {'a', 'z', 'q'}) {
                        String text = line.substring(0, at) + other + line.substring(at + 1);
                        fault(sort, text, text.equals(line) ? 0 : 1, text.equals(line) ? NONE : 0);
                    }
                    fault(sort, line.substring(0, at) + '{' + line.substring(at + 1), 1, 0);
                    fault(sort, line.substring(0, at) + '`' + line.substring(at + 1), 1, 0);
                }
            }
        }
    }

    /** Of a line that is cut, the end is where no text goes on, or the word that is none. */
    private static void cutTexts() {
        for (int sort = 0; sort < 3; sort++) {
            for (String line : LINES[sort]) {
                int word = line.length() - line.replaceAll("^[a-z]+", "").length();
                fault(sort, "", 0, NONE);
                for (int n = 1; n < line.length(); n++) {
                    fault(sort, line.substring(0, n), 1, n < word ? 0 : n);
                    fault(sort, line + line.substring(0, n), 1, n < word ? line.length() : line.length() + n);
                }
                fault(sort, line.substring(0, line.length() - 1) + " \n ", 1, line.length() + 2);
                fault(sort, line, 0, NONE);
                fault(sort, line + "  \n", 0, NONE);
            }
        }
        fault(0, " \n ", 0, NONE);
    }

    private static void numbersTooFewTooMany() {
        for (int sort = 0; sort < 3; sort++) {
            for (String line : LINES[sort]) {
                String bare = line.substring(0, line.length() - 1);
                fault(sort, bare + " 1;", 1, bare.length() + 1);
                int last = bare.lastIndexOf(' ');
                if (last > 0) {
                    fault(sort, bare.substring(0, last) + ";", 1, last);
                }
            }
        }
    }

    private static void linesOfOtherSorts() {
        for (int of = 0; of < 3; of++) {
            for (String line : LINES[of]) {
                for (int sort = 0; sort < 3; sort++) {
                    fault(sort, line, sort == of ? 0 : 1, sort == of ? NONE : 0);
                }
            }
        }
    }

    private static void faultOneOutdoesAll() {
        fault(0, "palm 100 1;rate;", 1, 15);
        fault(0, "palm 100 1", 1, 10);
        fault(0, "palm 100;", 1, 8);
        fault(0, "palm 1 1;".repeat(6) + "#", 1, 54);
        fault(0, "palm 1 1;".repeat(5) + "palm 1 1", 1, 53);
        fault(1, "night;".repeat(31) + ";", 1, 186);
        fault(1, "lend 1 1 1;clap 9 9 900;x", 1, 24);
        fault(2, "heard 11;heard 1000;", 1, 15);
        fault(2, "heard 3;".repeat(7) + "heard", 1, 61);
        fault(0, "#palm #", 1, 0);
    }

    private static void faultsByPlace() {
        String palms = "palm 1 1;".repeat(5);
        fault(0, "palm 100 3;", 2, 5);
        fault(0, "palm 1 3;palm 100 1;", 2, 7);
        fault(0, palms + "rate 51;palm 1 1;", 2, 50);
        fault(0, palms + "palm 1 1;rate 51;", 3, 45);
        fault(0, palms + "palm 1 1;" + "actor 0 0;".repeat(7), 3, 45);
        fault(0, "actor 0 0;".repeat(7) + palms + "palm 1 1;", 3, 60);
        fault(0, "palm 1 1;".repeat(4) + "palm 1 0;palm 1 1;", 2, 43);
        fault(1, "clap 5 6 0;", 2, 5);
        fault(1, "clap 4 6 0;", 2, 7);
        fault(1, "clap 4 5 0;", 2, 9);
        fault(1, "lend 4 5 0;", 2, 7);
        fault(1, "repay 3 3 0;", 2, 8);
        fault(1, "storm 6 0;", 2, 6);
    }

    private static void fullTape() {
        fault(1, " ".repeat(594) + "night;", 0, NONE);
        fault(1, "night;" + "\n".repeat(594), 0, NONE);
        fault(1, " ".repeat(600), 0, NONE);
        fault(1, " ".repeat(595) + "night", 1, 600);
        fault(1, " ".repeat(599) + "#", 1, 599);
        fault(1, "a".repeat(600), 1, 0);
        fault(1, "7".repeat(600), 1, 0);
        fault(1, ";".repeat(600), 1, 0);
        fault(0, "chest " + "9".repeat(594), 1, 6);
        fault(0, "rate 0;".repeat(85) + " ".repeat(5), 0, NONE);
        String line = "hush 005  004  099;";
        ClapBank bank = Checks.bank("", (line + "\n").repeat(30));
        due("7: a full tape's last deed", bank.deed(0, 29, 3), 99);
    }

    private static void feedBeyondTheTape() {
        for (int length = 581; length <= 600; length++) {
            ClapBank bank = new ClapBank();
            Checks.tape(bank, " ".repeat(length - 6) + "night;");
            due("2: no room behind " + length, bank.feed(-1, -1, -1, -1, -1), NONE);
            due("2: nothing comes", bank.end(length + 1), NONE);
            due("2: nothing goes", bank.end(length), length);
            due("2: the tape is as it was", bank.text(1, NONE), 0);
            due("2: the tape is as it was", bank.deed(0, NONE, 0), 1);
        }
        ClapBank bank = new ClapBank();
        Checks.tape(bank, " ".repeat(580));
        due("2: room behind 580", bank.feed(0x20202020, 0x20202020, 0x20202020, 0x20206e69, 0x6768743b), 600);
        due("2: all twenty came", bank.text(1, NONE), 0);
        due("2: all twenty came", bank.deed(0, 0, 0), 6);
        due("2: room again", bank.feed(0, 0, 0, 0, 0), 20);
    }

    private static void bytesInOrder() {
        for (int at = 0; at < 20; at++) {
            for (int b : new int[] {0, 35, 127, 128, 255}) {
                int[] five = new int[5];
                Arrays.fill(five, 0x20202020);
                int shift = 24 - 8 * (at % 4);
                five[at / 4] = five[at / 4] & ~(255 << shift) | b << shift;
                ClapBank bank = new ClapBank();
                due("2: feed", bank.feed(five[0], five[1], five[2], five[3], five[4]), 20);
                due("4: byte " + b + " at " + at, bank.text(2, NONE), NONE);
                due("5: byte " + b + " at " + at, bank.fault(1), at);
            }
        }
    }

    private static void ends() {
        ClapBank bank = new ClapBank();
        due("3: an empty tape's end", bank.end(0), 0);
        for (int n : new int[] {1, -1, 600, 601, Integer.MIN_VALUE, Integer.MAX_VALUE}) {
            due("3: an empty tape has not " + n, bank.end(n), NONE);
        }
        due("2: from the start", bank.feed(0x6e696768, 0x743b2323, 0, 0, 0), 20);
        for (int n : new int[] {21, -1, Integer.MIN_VALUE, Integer.MAX_VALUE}) {
            due("3: it has not " + n, bank.end(n), NONE);
        }
        due("3: all of it", bank.end(20), 20);
        due("3: its first six", bank.end(6), 6);
        due("3: the others are gone", bank.end(7), NONE);
        due("2: behind the six", bank.feed(0x6e696768, 0x743b2020, 0x20202020, 0x20202020, 0x20202020), 26);
        due("4: both", bank.text(1, NONE), 0);
        due("7: both", bank.deed(0, NONE, 0), 2);
        Checks.tape(bank, " ".repeat(600));
        due("3: the full tape", bank.end(601), NONE);
        due("3: the full tape", bank.end(600), 600);
        due("3: the full tape less one", bank.end(599), 599);
        due("3: the full tape less one", bank.end(600), NONE);
        due("3: none of it", bank.end(0), 0);
        due("3: none is left", bank.end(1), NONE);
        due("4: an empty text", bank.text(0, NONE), 0);
    }

    /** By how many there are already: the place NONE, each place that is, and the first that is not. */
    private static void placesOfTexts() {
        for (int sort = 0; sort < 3; sort++) {
            for (int many = 0; many <= 2; many++) {
                for (int at = -3; at <= 3; at++) {
                    ClapBank bank = new ClapBank();
                    for (int i = 0; i < many; i++) {
                        due("4: further", Checks.tell(bank, sort, NONE, ""), i);
                    }
                    int want = at == NONE && many < 2 ? many : at >= 0 && at < many ? at : -2;
                    String of = " sort " + sort + " at " + at + " of " + many;
                    due("4: text" + of, Checks.tell(bank, sort, at, LINES[sort][0]), want);
                    due("24: count" + of, bank.count(sort), want == many ? many + 1 : many);
                    due("24: of others" + of, bank.count((sort + 1) % 3) + bank.count((sort + 2) % 3), 0);
                    due("4: the tape is empty" + of, bank.end(1), NONE);
                    due("5: fault" + of, bank.fault(0), 0);
                    due("5: place" + of, bank.fault(1), NONE);
                    for (int i = 0; i < 2; i++) {
                        due("4: told" + of, linesOf(bank, sort, i), i == want ? 1 : i < many ? 0 : NONE);
                    }
                }
            }
        }
    }

    /** How many palms, deeds or minutes are told, NONE if there is none such. */
    private static int linesOf(ClapBank bank, int sort, int at) {
        int lines = sort == 0 ? bank.theatre(at, 0) : sort == 1 ? bank.deed(at, NONE, 0) : bank.heard(at, NONE);
        return lines < 0 ? NONE : lines;
    }

    private static void noSuchSort() {
        for (int sort : new int[] {-1, 3, Integer.MIN_VALUE, Integer.MAX_VALUE}) {
            for (int at : new int[] {NONE, 0, 1}) {
                ClapBank bank = Checks.bank("", "");
                Checks.tell(bank, 0, NONE, "#");
                due("4: no such sort", Checks.tell(bank, sort, at, "#"), -2);
                due("4: the tape is empty", bank.end(1), NONE);
                due("5: fault 0", bank.fault(0), 0);
                due("5: no place", bank.fault(1), NONE);
                due("24: theatres", bank.count(0), 1);
                due("24: books", bank.count(1), 1);
                due("24: darks", bank.count(2), 0);
            }
        }
    }

    /** Two of each, with a fault and a tape that no text is. */
    private static ClapBank crowded() {
        ClapBank bank = Checks.bank("palm 1 1;", "encore;");
        Checks.tell(bank, 2, NONE, "heard 1;");
        Checks.tell(bank, 0, NONE, "palm 2 2;palm 2 2;");
        Checks.tell(bank, 1, NONE, "night;night;");
        Checks.tell(bank, 2, NONE, "heard 2;heard 2;");
        Checks.tell(bank, 0, 0, "palm 3 3;");
        Checks.tape(bank, "#rest");
        return bank;
    }

    private static void isCrowded(String of, ClapBank bank, int fault, int place, int length) {
        for (int sort = 0; sort < 3; sort++) {
            due(of + ": count " + sort, bank.count(sort), 2);
            for (int at = 0; at < 2; at++) {
                due(of + ": lines of " + sort + " " + at, linesOf(bank, sort, at), at + 1);
            }
        }
        int[] told = {bank.theatre(0, 10), bank.theatre(1, 11), bank.deed(0, 0, 0), bank.deed(1, 1, 0),
            bank.heard(0, 0), bank.heard(1, 1)};
        due(of + ": all that is told", Arrays.equals(told, new int[] {1, 2, 5, 6, 1, 2}) ? 1 : 0, 1);
        due(of + ": fault", bank.fault(0), fault);
        due(of + ": place", bank.fault(1), place);
        due(of + ": the tape has no more", bank.end(length + 1), NONE);
        due(of + ": the tape has as much", bank.end(length), length);
    }

    private static void refusedTextLeavesAll() {
        isCrowded("as made", crowded(), 2, 7, 5);
        for (int sort = 0; sort < 3; sort++) {
            for (int at : new int[] {NONE, -2, 2, 3, Integer.MIN_VALUE, Integer.MAX_VALUE}) {
                ClapBank bank = crowded();
                due("4: refused at " + at, bank.text(sort, at), -2);
                isCrowded("4: refused at " + at, bank, 0, NONE, 0);
            }
        }
        for (int n : new int[] {-1, 6}) {
            ClapBank bank = crowded();
            due("3: refused end " + n, bank.end(n), NONE);
            isCrowded("3: refused end", bank, 2, 7, 5);
        }
        for (int k : new int[] {-1, 0, 1, 2, 3}) {
            ClapBank bank = crowded();
            checks.due("26: refused again " + k, bank.again(k), false);
            isCrowded("26: refused again", bank, 2, 7, 5);
        }
        for (int k : new int[] {-1, 3}) {
            ClapBank bank = crowded();
            checks.due("25: refused image " + k, bank.image(k), false);
            isCrowded("25: refused image", bank, 2, 7, 5);
        }
    }

    private static void faultyTextLeavesAll() {
        for (int sort = 0; sort < 3; sort++) {
            for (int at = 0; at < 2; at++) {
                ClapBank bank = crowded();
                due("4: a fault", bank.text(sort, at), NONE);
                isCrowded("4: a fault at " + at, bank, 1, 0, 0);
                String line = LINES[sort][0];
                due("4: a fault behind a line", Checks.tell(bank, sort, at, line + line + line + "x"), NONE);
                isCrowded("4: a fault behind lines", bank, 1, 3 * line.length(), 0);
            }
            ClapBank one = new ClapBank();
            Checks.tell(one, sort, NONE, "");
            due("4: a fault, where a further one had room", Checks.tell(one, sort, NONE, "x"), NONE);
            due("24: it is not counted", one.count(sort), 1);
            due("4: the room is still there", Checks.tell(one, sort, NONE, ""), 1);
        }
    }

    private static void faultOfWhat() {
        ClapBank bank = new ClapBank();
        for (int what : new int[] {-1, 2, Integer.MIN_VALUE, Integer.MAX_VALUE}) {
            due("5: another what, at first", bank.fault(what), NONE);
        }
        due("5: at first", bank.fault(0), 0);
        due("5: at first", bank.fault(1), NONE);
        Checks.tell(bank, 2, NONE, "heard 3;".repeat(7));
        due("5: fault 3", bank.fault(0), 3);
        due("5: its place", bank.fault(1), 48);
        for (int what : new int[] {-1, 2, 3, Integer.MIN_VALUE, Integer.MAX_VALUE}) {
            due("5: another what", bank.fault(what), NONE);
        }
        Checks.tape(bank, "heard");
        due("5: of the latest text(), not of the tape", bank.fault(0), 3);
        Checks.tell(bank, 2, NONE, "");
        due("5: of the latest text()", bank.fault(0), 0);
        due("5: of the latest text()", bank.fault(1), NONE);
    }

    private static void theatreOfWhat() {
        ClapBank bank = Checks.bank(FULL, "");
        int[][] want = {{5, 6, 50, 0, 4, 20}, {0, 99, 3, 4, 5}, {1, 2, 1, 2, 1}, {0, 40, 1, 3, 5, 7}, {400, 0, 2, 4, 6, 8},
            {30, 30, 0, 9}, {0, 30, 0, 8}};
        for (int what = -20; what < 100; what++) {
            boolean told = what >= 0 && what < 70 && what % 10 < want[what / 10].length;
            due("6: what " + what, bank.theatre(0, what), told ? want[what / 10][what % 10] : NONE);
        }
        due("6: another what", bank.theatre(0, Integer.MIN_VALUE), NONE);
        due("6: another what", bank.theatre(0, Integer.MAX_VALUE), NONE);
        for (int what : new int[] {0, 3, 10}) {
            due("6: none such", bank.theatre(-1, what), NONE);
            due("6: none such", bank.theatre(1, what), NONE);
            for (int far : FAR) {
                due("6: none such", bank.theatre(far, what), NONE);
            }
        }
        ClapBank none = Checks.bank("", "");
        for (int what = 10; what < 100; what++) {
            due("6: none of an empty one", none.theatre(0, what), NONE);
        }
        due("6: none at all", new ClapBank().theatre(0, 3), NONE);
    }

    private static void deedOfWhat() {
        ClapBank bank = Checks.bank("", "night;".repeat(22) + String.join("", LINES[1]) + "clap 4 5 99;");
        int[][] want = {{0, 0, 1, 2}, {1, 0, 1, 2}, {2, 0, 1, 2}, {3, 0, 1, 2}, {4, 0, 1, NONE}, {5, NONE, NONE, NONE},
            {6, NONE, NONE, NONE}, {0, 4, 5, 99}};
        for (int k = 22; k < 30; k++) {
            for (int what = -3; what < 8; what++) {
                int told = what >= 0 && what < 4 ? want[k - 22][what] : -2;
                due("7: deed " + k + " " + what, bank.deed(0, k, what), told);
            }
        }
        due("7: how many", bank.deed(0, NONE, 0), 30);
        for (int what : new int[] {-1, 1, 2, 3, 4, Integer.MIN_VALUE, Integer.MAX_VALUE}) {
            due("7: how many of another what", bank.deed(0, NONE, what), -2);
        }
        for (int k : new int[] {30, -2, Integer.MIN_VALUE, Integer.MAX_VALUE}) {
            due("7: no such deed", bank.deed(0, k, 0), -2);
            due("7: no such deed", bank.deed(0, k, 1), -2);
        }
        for (int book : new int[] {-1, 1, 2, Integer.MIN_VALUE, Integer.MAX_VALUE}) {
            due("7: no such book", bank.deed(book, NONE, 0), -2);
            due("7: no such book", bank.deed(book, 0, 0), -2);
        }
        ClapBank empty = Checks.bank("", "");
        due("7: an empty book", empty.deed(0, NONE, 0), 0);
        due("7: an empty book", empty.deed(0, 0, 0), -2);
    }

    private static void heardOfWhich() {
        ClapBank bank = new ClapBank();
        due("18: none at all", bank.heard(0, NONE), -2);
        Checks.tell(bank, 2, NONE, "heard 0;heard 10;heard 1;heard 9;heard 5;heard 6;");
        int[] want = {-2, -2, 6, 0, 10, 1, 9, 5, 6, -2, -2};
        for (int i = 0; i < want.length; i++) {
            due("18: minute " + (i - 3), bank.heard(0, i - 3), want[i]);
        }
        due("18: no such minute", bank.heard(0, Integer.MIN_VALUE), -2);
        due("18: no such minute", bank.heard(0, Integer.MAX_VALUE), -2);
        for (int dark : new int[] {-1, 1, 2, Integer.MIN_VALUE, Integer.MAX_VALUE}) {
            due("18: no such dark", bank.heard(dark, NONE), -2);
            due("18: no such dark", bank.heard(dark, 0), -2);
        }
        Checks.tell(bank, 2, NONE, "");
        due("18: no minutes", bank.heard(1, NONE), 0);
        due("18: no minutes", bank.heard(1, 0), -2);
    }

    private static void countOfSort() {
        for (ClapBank bank : new ClapBank[] {new ClapBank(), crowded()}) {
            for (int sort : new int[] {-2, -1, 3, 4, Integer.MIN_VALUE, Integer.MAX_VALUE}) {
                due("24: another sort", bank.count(sort), -2);
            }
        }
        for (int sort = 0; sort < 3; sort++) {
            due("1: none at first", new ClapBank().count(sort), 0);
            due("24: two", crowded().count(sort), 2);
        }
    }

    private static void imagesOfOtherNumbers() {
        ClapBank bank = new ClapBank();
        for (int k : new int[] {-1, 3, 4, Integer.MIN_VALUE, Integer.MAX_VALUE}) {
            checks.due("25: another k", bank.image(k), false);
            checks.due("26: another k", bank.again(k), false);
        }
        for (int k = 0; k < 3; k++) {
            checks.due("1: no images", bank.again(k), false);
            checks.due("25: image", bank.image(k), true);
            checks.due("26: again", bank.again(k), true);
        }
        checks.due("26: another k still", bank.again(3), false);
    }

    private static void imageOfNothing() {
        ClapBank bank = new ClapBank();
        checks.due("25: image of nothing", bank.image(1), true);
        for (int sort = 0; sort < 3; sort++) {
            Checks.tell(bank, sort, NONE, LINES[sort][0]);
        }
        Checks.tell(bank, 0, NONE, "x");
        Checks.tape(bank, "x");
        checks.due("26: again nothing", bank.again(1), true);
        for (int sort = 0; sort < 3; sort++) {
            due("26: none", bank.count(sort), 0);
            due("26: none", linesOf(bank, sort, 0), NONE);
        }
        due("26: no fault", bank.fault(0), 0);
        due("26: no place", bank.fault(1), NONE);
        due("26: no tape", bank.end(1), NONE);
    }

    private static void imageOfAll() {
        ClapBank bank = crowded();
        checks.due("25: image", bank.image(0), true);
        isCrowded("25: an image changes nothing", bank, 2, 7, 5);
        for (int sort = 0; sort < 3; sort++) {
            Checks.tell(bank, sort, 0, "");
            Checks.tell(bank, sort, 1, "");
        }
        Checks.tape(bank, "night;".repeat(100));
        checks.due("25: image of a full tape", bank.image(2), true);
        checks.due("26: again", bank.again(0), true);
        isCrowded("26: again", bank, 2, 7, 5);
        due("26: the tape's bytes", bank.text(1, 0), NONE);
        due("26: the tape's bytes", bank.fault(1), 0);
        checks.due("26: again, a second time", bank.again(0), true);
        isCrowded("26: again, a second time", bank, 2, 7, 5);
        checks.due("26: the full tape", bank.again(2), true);
        due("26: the full tape", bank.feed(0, 0, 0, 0, 0), NONE);
        due("26: the full tape", bank.end(600), 600);
        due("26: the full tape's text", bank.text(1, 0), NONE);
        due("26: the full tape's fault", bank.fault(0), 3);
        due("26: the full tape's place", bank.fault(1), 180);
    }

    /** How many there are of each sort, all differing, come back as they were. */
    private static void imagesOfCounts() {
        int[][] orders = {{0, 1, 2}, {1, 2, 0}, {2, 0, 1}, {0, 2, 1}, {2, 1, 0}, {1, 0, 2}};
        for (int[] many : orders) {
            ClapBank bank = new ClapBank();
            for (int sort = 0; sort < 3; sort++) {
                for (int i = 0; i < many[sort]; i++) {
                    Checks.tell(bank, sort, NONE, LINES[sort][0].repeat(i + 1));
                }
            }
            bank.image(0);
            for (int sort = 0; sort < 3; sort++) {
                Checks.tell(bank, sort, NONE, "");
                Checks.tell(bank, sort, NONE, "");
            }
            checks.due("26: again", bank.again(0), true);
            for (int sort = 0; sort < 3; sort++) {
                due("26: how many of " + sort, bank.count(sort), many[sort]);
                for (int at = 0; at < 2; at++) {
                    due("26: each of " + sort, linesOf(bank, sort, at), at < many[sort] ? at + 1 : NONE);
                }
            }
        }
    }

    private static void imagesStandAlone() {
        ClapBank bank = new ClapBank();
        for (int k = 0; k < 3; k++) {
            Checks.tell(bank, 0, k == 0 ? NONE : 0, "rate " + (k + 1) + ";");
            bank.image(k);
        }
        checks.due("26: again", bank.again(0), true);
        checks.due("25: refused", bank.image(3), false);
        for (int k = 2; k >= 0; k--) {
            checks.due("26: images are none of an image", bank.again(k), true);
            due("26: each has its own", bank.theatre(0, 2), k + 1);
        }
        Checks.tell(bank, 0, 0, "rate 9;");
        checks.due("25: image anew", bank.image(1), true);
        int[] want = {1, 9, 3};
        for (int k = 0; k < 3; k++) {
            checks.due("26: again", bank.again(k), true);
            due("26: the latest image", bank.theatre(0, 2), want[k]);
        }
    }
}
