import java.nio.charset.StandardCharsets;
import java.util.ArrayList;
import java.util.Arrays;
import java.util.List;
import java.util.Random;

/** Runs of feed, end, text, image and again, within an object's 512 calls, against a plain model of what is told. */
public final class TapeTest {
    private static final Checks checks = new Checks();
    private static final Random random = new Random(5);
    private static final String[][] TEXTS = {
        {"palm 5 2;rate 7;", "actor 3 4;chest 12;", "usurer 3 3;borrow 2;", "palm 5 3;", "actor 1;"},
        {"clap 0 1 2;night;", "encore;", "storm 1 1;encore;", "lend 1 1 1;", "nigh;"},
        {"heard 1;", "heard 2;heard 3;", "heard 10;", "heard 11;", "heard;"}};

    /** All that is told: texts that were taken, the tape, the latest fault. */
    private static final class Told {
        final List<List<String>> texts = new ArrayList<>();
        String tape = "";
        int fault = 0;
        int place = -1;

        Told() {
            for (int sort = 0; sort < 3; sort++) {
                texts.add(new ArrayList<>());
            }
        }

        Told copy() {
            Told copy = new Told();
            for (int sort = 0; sort < 3; sort++) {
                copy.texts.get(sort).addAll(texts.get(sort));
            }
            copy.tape = tape;
            copy.fault = fault;
            copy.place = place;
            return copy;
        }

        int feed(String twenty) {
            if (tape.length() > 580) {
                return -1;
            }
            tape += twenty;
            return tape.length();
        }

        int end(int n) {
            if (n < 0 || n > tape.length()) {
                return -1;
            }
            tape = tape.substring(0, n);
            return n;
        }

        int text(int sort, int at) {
            String taken = tape;
            tape = "";
            fault = 0;
            place = -1;
            if (sort < 0 || sort > 2) {
                return -2;
            }
            List<String> row = texts.get(sort);
            if (at == -1 ? row.size() == 2 : at < 0 || at >= row.size()) {
                return -2;
            }
            Model.Text read = Model.read(sort, taken);
            fault = read.fault;
            place = read.place;
            if (fault != 0) {
                return -1;
            }
            if (at == -1) {
                row.add(taken);
                return row.size() - 1;
            }
            row.set(at, taken);
            return at;
        }
    }

    public static void main(String[] args) {
        for (int i = 0; i < 600; i++) {
            tryRun();
        }
        checks.finish();
    }

    private static void tryRun() {
        ClapBank bank = new ClapBank();
        Told told = new Told();
        Told[] images = new Told[3];
        for (int call = 0; call < 40; call++) {
            int k = random.nextInt(5) - 1;
            boolean kept = k >= 0 && k < 3;
            switch (random.nextInt(8)) {
                case 0, 1 -> feedText(bank, told);
                case 2 -> {
                    int near = told.tape.length() - random.nextInt(4) + 1;
                    int n = random.nextInt(3) == 0 ? random.nextInt(640) - 20 : near;
                    checks.due("end " + n, bank.end(n), told.end(n));
                }
                case 3 -> {
                    checks.due("image " + k, bank.image(k), kept);
                    if (kept) {
                        images[k] = told.copy();
                    }
                }
                case 4 -> {
                    checks.due("again " + k, bank.again(k), kept && images[k] != null);
                    if (kept && images[k] != null) {
                        told = images[k].copy();
                    }
                }
                default -> takeText(bank, told);
            }
            compareTape(bank, told);
            if (call % 10 == 9) {
                compareTexts(bank, told);
            }
        }
    }

    private static void takeText(ClapBank bank, Told told) {
        int sort = random.nextInt(5) - 1;
        int at = random.nextInt(5) - 2;
        checks.due("text " + sort + " " + at + " '" + told.tape + "'", bank.text(sort, at), told.text(sort, at));
    }

    /** Feeds a text and cuts off what was fed behind it, so that texts on the tape may follow each other. */
    private static void feedText(ClapBank bank, Told told) {
        String[] row = TEXTS[random.nextInt(3)];
        String text = row[random.nextInt(row.length)];
        int before = told.tape.length();
        boolean room = true;
        for (int at = 0; at < text.length() && room; at += 20) {
            byte[] twenty = new byte[20];
            Arrays.fill(twenty, (byte) (random.nextInt(4) == 0 ? 255 : 32));
            byte[] part = text.substring(at, Math.min(text.length(), at + 20)).getBytes(StandardCharsets.ISO_8859_1);
            System.arraycopy(part, 0, twenty, 0, part.length);
            int[] five = new int[5];
            for (int i = 0; i < 20; i++) {
                five[i / 4] = five[i / 4] << 8 | twenty[i] & 255;
            }
            int want = told.feed(new String(twenty, StandardCharsets.ISO_8859_1));
            checks.due("feed '" + text + "'", bank.feed(five[0], five[1], five[2], five[3], five[4]), want);
            room = want != -1;
        }
        if (room && random.nextInt(5) > 0) {
            int n = before + text.length();
            checks.due("end " + n, bank.end(n), told.end(n));
        }
    }

    private static void compareTape(ClapBank bank, Told told) {
        checks.due("fault", bank.fault(0), told.fault);
        checks.due("place", bank.fault(1), told.place);
        checks.due("end " + (told.tape.length() + 1), bank.end(told.tape.length() + 1), -1);
        checks.due("end " + told.tape.length(), bank.end(told.tape.length()), told.tape.length());
        for (int sort = 0; sort < 3; sort++) {
            checks.due("count " + sort, bank.count(sort), told.texts.get(sort).size());
        }
    }

    private static void compareTexts(ClapBank bank, Told told) {
        for (int at = 0; at < 2; at++) {
            compareTheatre(bank, at, at < told.texts.get(0).size() ? told.texts.get(0).get(at) : null);
            compareBook(bank, at, at < told.texts.get(1).size() ? told.texts.get(1).get(at) : null);
            compareDark(bank, at, at < told.texts.get(2).size() ? told.texts.get(2).get(at) : null);
        }
    }

    private static void compareTheatre(ClapBank bank, int at, String text) {
        if (text == null) {
            checks.due("theatre " + at, bank.theatre(at, 0), -1);
            return;
        }
        Model.House house = new Model.House(Model.read(0, text));
        int[] want = {house.palms.size(), house.actors.size(), house.rate, house.chest, house.usurers.size(), house.borrow};
        for (int what = 0; what < want.length; what++) {
            checks.due("theatre " + at + " " + what + " of " + text, bank.theatre(at, what), want[what]);
        }
    }

    private static void compareBook(ClapBank bank, int at, String text) {
        if (text == null) {
            checks.due("book " + at, bank.deed(at, -1, 0), -2);
            return;
        }
        List<int[]> deeds = Model.deeds(Model.read(1, text));
        checks.due("deeds " + at + " of " + text, bank.deed(at, -1, 0), deeds.size());
        for (int k = 0; k < deeds.size(); k++) {
            checks.due("deed " + at + " " + k + " of " + text, bank.deed(at, k, 0), deeds.get(k)[0]);
        }
    }

    private static void compareDark(ClapBank bank, int at, String text) {
        if (text == null) {
            checks.due("dark " + at, bank.heard(at, -1), -2);
            return;
        }
        List<String[]> lines = Model.read(2, text).lines;
        checks.due("minutes " + at + " of " + text, bank.heard(at, -1), lines.size());
        for (int k = 0; k < lines.size(); k++) {
            checks.due("heard " + at + " " + k + " of " + text, bank.heard(at, k), Integer.parseInt(lines.get(k)[1]));
        }
    }
}
