import java.nio.charset.StandardCharsets;

/** What the tests share: feeding a text to an object, and counting answers that are not as due. */
final class Checks {
    private int wrong;
    private int made;

    void due(String call, long got, long want) {
        made++;
        if (got != want) {
            wrong++;
            if (wrong <= 50) {
                System.out.println(call + " answered " + got + ", due is " + want);
            }
        }
    }

    void due(String call, boolean got, boolean want) {
        due(call, got ? 1 : 0, want ? 1 : 0);
    }

    /** Takes a text into a new object: its fault and place, 0 and NONE if it has none. */
    void fault(int sort, String text, int fault, int place) {
        ClapBank bank = new ClapBank();
        String of = " of '" + text + "' as sort " + sort;
        due("4: text" + of, tell(bank, sort, ClapBank.NONE, text), fault == 0 ? 0 : ClapBank.NONE);
        due("5: fault" + of, bank.fault(0), fault);
        due("5: place" + of, bank.fault(1), place);
        due("24: count" + of, bank.count(sort), fault == 0 ? 1 : 0);
    }

    void finish() {
        System.out.println(made + " answers, " + wrong + " not as due");
        if (wrong != 0) {
            System.exit(1);
        }
    }

    /** Puts a text on an empty tape, and only there. */
    static void tape(ClapBank bank, String text) {
        bank.end(0);
        byte[] bytes = text.getBytes(StandardCharsets.ISO_8859_1);
        int[] five = new int[5];
        for (int at = 0; at < bytes.length; at += 20) {
            for (int i = 0; i < 5; i++) {
                five[i] = 0;
                for (int j = at + 4 * i; j < at + 4 * i + 4; j++) {
                    five[i] = five[i] << 8 | (j < bytes.length ? bytes[j] & 255 : 32);
                }
            }
            bank.feed(five[0], five[1], five[2], five[3], five[4]);
        }
        bank.end(bytes.length);
    }

    static int tell(ClapBank bank, int sort, int at, String text) {
        tape(bank, text);
        return bank.text(sort, at);
    }

    static ClapBank bank(String theatre, String book) {
        ClapBank bank = new ClapBank();
        if (tell(bank, 0, ClapBank.NONE, theatre) != 0 || tell(bank, 1, ClapBank.NONE, book) != 0) {
            throw new IllegalStateException("the test's own text has a fault: " + theatre + " / " + book);
        }
        return bank;
    }
}
