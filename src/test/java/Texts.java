import java.util.Random;

/** Random texts of theatres, books and darks, whose numbers often stand at the edges of what may be told. */
final class Texts {
    private final Random random;

    Texts(Random random) {
        this.random = random;
    }

    int upTo(int most) {
        return random.nextInt(most + 1);
    }

    /** Between the two, and now and then one of them. */
    private int edgy(int least, int most) {
        int draw = upTo(11);
        return draw == 0 ? least : draw == 1 ? most : least + upTo(most - least);
    }

    String theatre(boolean small) {
        StringBuilder b = new StringBuilder();
        int palms = edgy(0, 5);
        int actors = edgy(0, 6);
        int usurers = edgy(0, 4);
        for (int i = 0; i < palms; i++) {
            b.append("palm ").append(edgy(0, small ? 8 : 99)).append(' ').append(1 + upTo(1)).append(';');
        }
        for (int i = 0; i < actors; i++) {
            b.append("actor ").append(edgy(0, small ? 12 : 40)).append(' ').append(edgy(0, small ? 40 : 400)).append(';');
        }
        for (int i = 0; i < usurers; i++) {
            int ask = edgy(0, 30);
            b.append("usurer ").append(ask).append(' ').append(edgy(0, ask)).append(';');
        }
        if (upTo(3) > 0) {
            b.append("rate ").append(edgy(0, 50)).append(';');
        }
        if (upTo(3) > 0) {
            b.append("chest ").append(edgy(0, small ? 60 : 999)).append(';');
        }
        if (upTo(3) > 0) {
            b.append("borrow ").append(edgy(0, 20)).append(';');
        }
        return b.toString();
    }

    /** Mostly deeds that can be, so that evenings grow long; how many claps or halves are often just as many as may be. */
    String book(Model.House house) {
        Model.State s = new Model.State(house);
        StringBuilder b = new StringBuilder();
        int deeds = edgy(0, 30);
        for (int k = 0; k < deeds; k++) {
            int[] deed = deed(s);
            for (int tries = 0; tries < 20 && !s.can(deed); tries++) {
                deed = deed(s);
            }
            if (!s.can(deed) && upTo(3) > 0) {
                deed = new int[] {5 + upTo(1), -1, -1, -1};
            }
            if (s.can(deed)) {
                s.act(deed);
            }
            b.append(line(deed));
        }
        return b.toString();
    }

    private int[] deed(Model.State s) {
        int p = random.nextInt(Math.max(1, s.left.length));
        int q = random.nextInt(Math.max(1, s.left.length));
        int a = random.nextInt(Math.max(1, s.saved.length));
        int many = 1 + upTo(upTo(9) == 0 ? 98 : 4);
        int kind = upTo(6);
        if ((kind == 1 || kind == 2) && p == q) {
            q = (p + 1) % 5;
        }
        if (upTo(4) == 0) {
            many = (int) Math.max(1, Math.min(99, justAsMany(s, kind, p, q, a) + upTo(5) / 5));
        }
        return switch (kind) {
            case 0 -> new int[] {0, p, a, many};
            case 1, 2 -> new int[] {kind, p, q, many};
            case 3 -> new int[] {3, a, p, many};
            case 4 -> new int[] {4, a, many, -1};
            default -> new int[] {kind, -1, -1, -1};
        };
    }

    private static long justAsMany(Model.State s, int kind, int p, int q, int a) {
        boolean palm = p < s.left.length;
        boolean other = q < s.left.length;
        boolean actor = a < s.saved.length;
        return switch (kind) {
            case 0, 1 -> palm ? s.left[p] : 1;
            case 2 -> palm && other ? Math.min(s.left[p], s.owes[p][q]) : 1;
            case 3 -> actor ? Math.min(s.chest, s.saved[a].longValueExact()) : 1;
            default -> 99;
        };
    }

    private String line(int[] deed) {
        StringBuilder b = new StringBuilder(Model.KINDS.get(deed[0]));
        for (int j = 1; j < 4 && deed[j] >= 0; j++) {
            b.append(j == 1 && upTo(5) == 0 ? "\n" : " ").append(deed[j]);
        }
        return b.append(';').toString();
    }

    /** Minutes that may well have been heard, if all palms together have so many halves. */
    String dark(int halves) {
        StringBuilder b = new StringBuilder();
        int minutes = edgy(0, 6);
        for (int k = 0; k < minutes; k++) {
            int heard = upTo(upTo(4) > 0 ? Math.min(10, Math.max(0, halves / 2)) : 10);
            b.append("heard ").append(heard).append(';');
        }
        return b.toString();
    }

    /** The text with a few signs changed, put in, taken out or cut off. */
    String spoilt(String good) {
        StringBuilder text = new StringBuilder(good);
        String signs = "0123456789;; \nabclpt#\u00e9\u0000A-";
        int times = upTo(3);
        for (int i = 0; i < times && text.length() > 0; i++) {
            int at = random.nextInt(text.length());
            char sign = signs.charAt(random.nextInt(signs.length()));
            switch (upTo(3)) {
                case 0 -> text.setCharAt(at, sign);
                case 1 -> text.insert(at, sign);
                case 2 -> text.deleteCharAt(at);
                default -> text.setLength(at);
            }
        }
        text.setLength(Math.min(600, text.length()));
        return text.toString();
    }
}
