import java.util.Random;

/** Runs of all calls, good and refused ones, on one object within its 512 calls, against the whole face by the model. */
public final class RunsTest {
    private static final Checks checks = new Checks();
    private static final Random random = new Random(26);
    private static final Texts texts = new Texts(random);
    private static final int CALLS = 512;

    private final ClapBank bank = new ClapBank();
    private final ModelBank model = new ModelBank();
    private final StringBuilder story = new StringBuilder();
    private int calls;

    public static void main(String[] args) {
        for (int i = 0; i < 400; i++) {
            new RunsTest().go();
        }
        checks.finish();
    }

    private void go() {
        while (calls < CALLS - 40) {
            switch (random.nextInt(12)) {
                case 0 -> tellSome();
                case 1 -> touchTape();
                case 2 -> keepOrBring();
                default -> askSome();
            }
        }
    }

    private void due(String call, long got, long want) {
        calls++;
        checks.due(call + " behind " + story, got, want);
    }

    /** Mostly 0, often 1, now and then none such. */
    private int which() {
        int draw = random.nextInt(12);
        return draw < 6 ? 0 : draw < 10 ? 1 : draw == 10 ? -1 : 2;
    }

    /** A number from just below least to just above most, at times far off. */
    private int about(int least, int most) {
        int draw = random.nextInt(40);
        return draw == 0 ? Integer.MIN_VALUE : draw == 1 ? Integer.MAX_VALUE : least - 1 + random.nextInt(most - least + 3);
    }

    private String newText(int sort) {
        Model.House house = model.house(which());
        String text = switch (sort) {
            case 0 -> texts.theatre(random.nextInt(3) > 0);
            case 1 -> house == null ? "encore;clap 0 0 1;" : texts.book(house);
            default -> texts.dark(house == null ? 4 : house.palms.stream().mapToInt(p -> p[1]).sum());
        };
        return random.nextInt(5) == 0 ? texts.spoilt(text) : text;
    }

    private void tellSome() {
        int sort = random.nextInt(3);
        String text = newText(sort);
        feed(text);
        int sortAsked = random.nextInt(20) == 0 ? about(0, 2) : sort;
        int at = model.count(sort) < 2 && random.nextInt(2) == 0 ? -1 : about(0, 1);
        int want = model.text(sortAsked, at);
        due("text " + sortAsked + " " + at, bank.text(sortAsked, at), want);
        story.append(" / text ").append(sortAsked).append(' ').append(at).append(" '").append(text).append("' ").append(want);
        for (int what = 0; what < 2; what++) {
            due("fault " + what, bank.fault(what), model.fault(what));
        }
    }

    private void feed(String text) {
        due("end 0", bank.end(0), model.end(0));
        for (int at = 0; at < text.length(); at += 20) {
            int[] five = new int[5];
            for (int i = at; i < at + 20; i++) {
                five[(i - at) / 4] = five[(i - at) / 4] << 8 | (i < text.length() ? text.charAt(i) & 255 : 32);
            }
            due("feed", bank.feed(five[0], five[1], five[2], five[3], five[4]),
                model.feed(five[0], five[1], five[2], five[3], five[4]));
        }
        due("end", bank.end(text.length()), model.end(text.length()));
    }

    private void touchTape() {
        if (random.nextInt(2) == 0) {
            int word = random.nextInt();
            due("feed", bank.feed(word, 0x20202020, 0x0a0a0a0a, ~word, 0x3b3b3b3b),
                model.feed(word, 0x20202020, 0x0a0a0a0a, ~word, 0x3b3b3b3b));
            story.append(" / feed ").append(word);
        } else {
            int n = about(model.length() - 2, model.length());
            due("end " + n, bank.end(n), model.end(n));
            story.append(" / end ").append(n);
        }
    }

    private void keepOrBring() {
        int k = about(0, 2);
        if (random.nextInt(2) == 0) {
            due("image " + k, bank.image(k) ? 1 : 0, model.image(k) ? 1 : 0);
            story.append(" / image ").append(k);
        } else {
            due("again " + k, bank.again(k) ? 1 : 0, model.again(k) ? 1 : 0);
            story.append(" / again ").append(k);
        }
    }

    private void askSome() {
        int theatre = which();
        int book = which();
        int stop = Math.max(0, model.stop(theatre, book));
        int n = random.nextInt(6) == 0 ? about(0, stop) : random.nextInt(stop + 1);
        if (random.nextInt(2) == 0) {
            askOfState(theatre, book, n);
        } else {
            askOfTold(theatre, book);
        }
    }

    private void askOfState(int t, int b, int n) {
        String of = " " + t + " " + b + " " + n + " ";
        boolean either = random.nextBoolean();
        int palm = about(0, 4);
        int actor = about(0, 5);
        int what = 0;
        switch (random.nextInt(8)) {
            case 0 -> due("state" + of + (what = about(0, 6)), bank.state(t, b, n, what), model.state(t, b, n, what));
            case 1 -> due("palm" + of + palm + " " + (what = tens(2)), bank.palm(t, b, n, palm, what),
                model.palm(t, b, n, palm, what));
            case 2 -> due("actor" + of + actor + " " + (what = about(0, 7)), bank.actor(t, b, n, actor, what),
                model.actor(t, b, n, actor, what));
            case 3 -> due("run" + of + (what = about(0, 1)), bank.run(t, b, n, what), model.run(t, b, n, what));
            case 4 -> due("feast" + of + (what = about(0, 3)), bank.feast(t, b, n, what), model.feast(t, b, n, what));
            case 5 -> due("fair" + of + either, bank.fair(t, b, n, either), model.fair(t, b, n, either));
            default -> due("look" + of + (what = tens(2)), bank.look(t, b, n, what), model.look(t, b, n, what));
        }
    }

    /** 0, 1 .. or so, or a number of one of the tens, up to so many of them. */
    private int tens(int most) {
        return random.nextInt(most + 1) == 0 ? about(0, 1) : 10 * (1 + random.nextInt(most)) + about(0, 5);
    }

    private void askOfTold(int t, int b) {
        boolean either = random.nextBoolean();
        int k = about(-1, 6);
        int what = about(0, 1);
        int n = random.nextInt(3) == 0 ? about(198, 200) : about(0, 40);
        switch (random.nextInt(13)) {
            case 0 -> due("fault " + what, bank.fault(what), model.fault(what));
            case 1 -> due("theatre " + t + " " + (what = tens(7)), bank.theatre(t, what), model.theatre(t, what));
            case 2 -> due("deed " + b + " " + (k = about(-1, 30)) + " " + (what = about(0, 3)), bank.deed(b, k, what),
                model.deed(b, k, what));
            case 3 -> due("stop " + t + " " + b, bank.stop(t, b), model.stop(t, b));
            case 4 -> due("ask " + t + " " + k + " " + n, bank.ask(t, k, n), model.ask(t, k, n));
            case 5 -> due("taken " + t + " " + k + " " + n, bank.taken(t, k, n), model.taken(t, k, n));
            case 6 -> due("stands " + t + " " + what, bank.stands(t, what), model.stands(t, what));
            case 7 -> due("heard " + b + " " + k, bank.heard(b, k), model.heard(b, k));
            case 8 -> due("ways " + t + " " + b, bank.ways(t, b), model.ways(t, b));
            case 9 -> due("whose " + t + " " + b + " " + k + either, bank.whose(t, b, k, either), model.whose(t, b, k, either));
            case 10 -> {
                int seed = random.nextInt();
                int evenings = about(0, 20);
                due("drawn " + t + " " + seed + " " + evenings + " " + (what = tens(1)),
                    bank.drawn(t, seed, evenings, what), model.drawn(t, seed, evenings, what));
            }
            case 11 -> due("silence " + t + " " + b + either, bank.silence(t, b, either), model.silence(t, b, either));
            default -> due("count " + (what = about(0, 2)), bank.count(what), model.count(what));
        }
    }
}
