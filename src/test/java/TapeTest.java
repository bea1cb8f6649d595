import java.nio.ByteBuffer;
import java.nio.charset.StandardCharsets;
import java.util.Arrays;
import java.util.Random;

/** Runs of feed, end, text, image and again, and all that is told behind each, against the model. */
public final class TapeTest {
    private static final Checks checks = new Checks();
    private static final Random random = new Random(5);
    private static final String[][] TEXTS = {
        {"palm 5 2;rate 7;", "actor 3 4;chest 12;", "usurer 3 3;borrow 2;", "palm 5 3;", "actor 1;"},
        {"clap 0 1 2;night;", "encore;", "storm 1 1;encore;", "lend 1 1 1;", "nigh;"},
        {"heard 1;", "heard 2;heard 3;", "heard 10;", "heard 11;", "heard;"}};

    private final ClapBank bank = new ClapBank();
    private final ModelBank model = new ModelBank();

    public static void main(String[] args) {
        for (int i = 0; i < 600; i++) {
            new TapeTest().go();
        }
        checks.finish();
    }

    private void go() {
        for (int call = 0; call < 40; call++) {
            int k = random.nextInt(5) - 1;
            switch (random.nextInt(8)) {
                case 0, 1 -> feedText();
                case 2 -> {
                    int near = model.length() - random.nextInt(4) + 1;
                    cut(random.nextInt(3) == 0 ? random.nextInt(640) - 20 : near);
                }
                case 3 -> checks.due("image " + k, bank.image(k), model.image(k));
                case 4 -> checks.due("again " + k, bank.again(k), model.again(k));
                default -> takeText();
            }
            compareTape();
            if (call % 10 == 9) {
                compareTexts();
            }
        }
    }

    private void cut(int n) {
        checks.due("end " + n, bank.end(n), model.end(n));
    }

    private void takeText() {
        int sort = random.nextInt(5) - 1;
        int at = random.nextInt(5) - 2;
        String of = "text " + sort + " " + at + " '" + model.tape() + "'";
        checks.due(of, bank.text(sort, at), model.text(sort, at));
    }

    /** Feeds a text and cuts off what was fed behind it, so that texts on the tape may follow each other. */
    private void feedText() {
        String[] row = TEXTS[random.nextInt(3)];
        byte[] text = row[random.nextInt(row.length)].getBytes(StandardCharsets.ISO_8859_1);
        int before = model.length();
        for (int at = 0; at < text.length; at += 20) {
            byte[] twenty = new byte[20];
            Arrays.fill(twenty, (byte) (random.nextInt(4) == 0 ? 255 : 32));
            System.arraycopy(text, at, twenty, 0, Math.min(20, text.length - at));
            ByteBuffer five = ByteBuffer.wrap(twenty);
            int[] w = {five.getInt(), five.getInt(), five.getInt(), five.getInt(), five.getInt()};
            checks.due("feed", bank.feed(w[0], w[1], w[2], w[3], w[4]), model.feed(w[0], w[1], w[2], w[3], w[4]));
        }
        if (random.nextInt(5) > 0) {
            cut(before + text.length);
        }
    }

    private void compareTape() {
        cut(model.length() + 1);
        cut(model.length());
        for (int i = 0; i < 3; i++) {
            checks.due("fault " + i, bank.fault(i), model.fault(i));
            checks.due("count " + i, bank.count(i), model.count(i));
        }
    }

    private void compareTexts() {
        for (int at = 0; at < 2; at++) {
            for (int what : new int[] {0, 1, 2, 3, 4, 5, 10, 30, 50}) {
                checks.due("theatre " + at + " " + what, bank.theatre(at, what), model.theatre(at, what));
            }
            for (int k = -1; k < 3; k++) {
                checks.due("deed " + at + " " + k, bank.deed(at, k, 0), model.deed(at, k, 0));
                checks.due("heard " + at + " " + k, bank.heard(at, k), model.heard(at, k));
            }
        }
    }
}
