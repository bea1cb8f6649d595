import java.math.BigInteger;
import java.nio.ByteBuffer;
import java.nio.charset.StandardCharsets;
import java.util.ArrayList;
import java.util.Arrays;
import java.util.List;

/** The whole face by the model: what each call is due to answer, each time from the texts that were taken. */
final class ModelBank {
    private static final int NONE = -1;
    private static final int REFUSED = -2;

    /** All that is told: texts that were taken, the tape, the latest fault. */
    private static final class Told {
        private final List<List<String>> texts = List.of(new ArrayList<>(), new ArrayList<>(), new ArrayList<>());
        private String tape = "";
        private int fault = 0;
        private int place = NONE;

        private Told copy() {
            Told copy = new Told();
            for (int sort = 0; sort < 3; sort++) {
                copy.texts.get(sort).addAll(texts.get(sort));
            }
            copy.tape = tape;
            copy.fault = fault;
            copy.place = place;
            return copy;
        }
    }

    private Told told = new Told();
    private final Told[] images = new Told[3];

    int length() {
        return told.tape.length();
    }

    String tape() {
        return told.tape;
    }

    String textOf(int sort, int at) {
        boolean there = sort >= 0 && sort < 3 && at >= 0 && at < told.texts.get(sort).size();
        return there ? told.texts.get(sort).get(at) : null;
    }

    Model.House house(int theatre) {
        String text = textOf(0, theatre);
        return text == null ? null : new Model.House(Model.read(0, text));
    }

    private List<int[]> deeds(int book) {
        String text = textOf(1, book);
        return text == null ? null : Model.deeds(Model.read(1, text));
    }

    private int[] minutes(int dark) {
        String text = textOf(2, dark);
        return text == null ? null : Model.read(2, text).lines.stream().mapToInt(l -> Integer.parseInt(l[1])).toArray();
    }

    private Model.State reached(int theatre, int book, int n) {
        Model.House house = house(theatre);
        List<int[]> deeds = deeds(book);
        return house == null || deeds == null ? null : Model.state(house, deeds, n);
    }

    int feed(int a, int b, int c, int d, int e) {
        if (told.tape.length() > 580) {
            return NONE;
        }
        byte[] twenty = ByteBuffer.allocate(20).putInt(a).putInt(b).putInt(c).putInt(d).putInt(e).array();
        told.tape += new String(twenty, StandardCharsets.ISO_8859_1);
        return told.tape.length();
    }

    int end(int n) {
        if (n < 0 || n > told.tape.length()) {
            return NONE;
        }
        told.tape = told.tape.substring(0, n);
        return n;
    }

    int text(int sort, int at) {
        String taken = told.tape;
        told.tape = "";
        told.fault = 0;
        told.place = NONE;
        if (sort < 0 || sort > 2) {
            return REFUSED;
        }
        List<String> row = told.texts.get(sort);
        if (at == NONE ? row.size() == 2 : at < 0 || at >= row.size()) {
            return REFUSED;
        }
        Model.Text read = Model.read(sort, taken);
        told.fault = read.fault;
        told.place = read.place;
        if (read.fault != 0) {
            return NONE;
        }
        if (at == NONE) {
            row.add(taken);
            return row.size() - 1;
        }
        row.set(at, taken);
        return at;
    }

    int fault(int what) {
        return what == 0 ? told.fault : what == 1 ? told.place : NONE;
    }

    int theatre(int theatre, int what) {
        Model.House house = house(theatre);
        if (house == null) {
            return NONE;
        }
        int[] whole = {house.palms.size(), house.actors.size(), house.rate, house.chest, house.usurers.size(), house.borrow};
        if (what >= 0 && what < whole.length) {
            return whole[what];
        }
        if (what < 10 || what >= 70) {
            return NONE;
        }
        List<int[]> row = List.of(house.palms, house.actors, house.usurers).get((what - 10) / 20);
        return what % 10 < row.size() ? row.get(what % 10)[(what / 10 - 1) % 2] : NONE;
    }

    int deed(int book, int k, int what) {
        List<int[]> deeds = deeds(book);
        if (deeds == null) {
            return REFUSED;
        }
        if (k == NONE && what == 0) {
            return deeds.size();
        }
        return k >= 0 && k < deeds.size() && what >= 0 && what < 4 ? deeds.get(k)[what] : REFUSED;
    }

    int stop(int theatre, int book) {
        return house(theatre) == null || deeds(book) == null ? NONE : Model.stop(house(theatre), deeds(book));
    }

    long state(int theatre, int book, int n, int what) {
        Model.State s = reached(theatre, book, n);
        if (s == null) {
            return REFUSED;
        }
        int hushed = 0;
        for (int p = 0; p < s.hushed.length; p++) {
            hushed |= s.hushed[p] ? 1 << p : 0;
        }
        BigInteger all = BigInteger.ZERO;
        for (int a = 0; a < s.saved.length; a++) {
            all = s.alive(a) ? all.add(s.saved[a]) : all;
        }
        long[] want = {s.chest, s.encores, s.nights, s.living(), hushed, all.longValueExact(), s.claps};
        return what >= 0 && what < want.length ? want[what] : REFUSED;
    }

    long palm(int theatre, int book, int n, int palm, int what) {
        Model.State s = reached(theatre, book, n);
        if (s == null || palm < 0 || palm >= s.left.length) {
            return REFUSED;
        }
        if (what >= 10 && what < 10 + s.left.length && what != 10 + palm) {
            return s.owes[palm][what - 10];
        }
        if (what >= 20 && what < 20 + s.saved.length) {
            return s.got[palm][what - 20];
        }
        return what == 0 ? s.left[palm] : REFUSED;
    }

    long actor(int theatre, int book, int n, int actor, int what) {
        Model.State s = reached(theatre, book, n);
        if (s == null || actor < 0 || actor >= s.saved.length) {
            return REFUSED;
        }
        boolean live = s.alive(actor);
        return switch (what) {
            case 0 -> s.saved[actor].longValueExact();
            case 1 -> live ? 1 : 0;
            case 2 -> live ? s.price(actor, 0) : 0;
            case 3 -> s.need(actor);
            case 4 -> s.starved[actor];
            case 5 -> live ? Model.nights(s.house, s, actor) : 0;
            case 6 -> live ? Model.star(s, actor) : 0;
            case 7 -> s.storms[actor];
            default -> REFUSED;
        };
    }

    int run(int theatre, int book, int n, int what) {
        Model.State s = reached(theatre, book, n);
        return s == null || what < 0 || what > 1 ? REFUSED : Model.run(s)[what];
    }

    int feast(int theatre, int book, int n, int what) {
        Model.State s = reached(theatre, book, n);
        return s == null || what < 0 || what > 3 ? REFUSED : Model.feast(s)[what];
    }

    long fair(int theatre, int book, int n, boolean under) {
        Model.State s = reached(theatre, book, n);
        long left = s == null ? 0 : Arrays.stream(s.left).sum();
        if (left == 0) {
            return REFUSED;
        }
        long needs = 0;
        for (int a = 0; a < s.saved.length; a++) {
            needs += s.need(a);
        }
        long common = BigInteger.valueOf(needs).gcd(BigInteger.valueOf(left)).longValueExact();
        return (under ? left : needs) / common;
    }

    private int[][] rounds(int theatre, boolean taken) {
        Model.House house = house(theatre);
        int[][] gains = new int[201][house.usurers.size()];
        int[][] asks = Model.asks(house, gains);
        return taken ? gains : asks;
    }

    private boolean hasUsurer(int theatre, int usurer) {
        return house(theatre) != null && usurer >= 0 && usurer < house(theatre).usurers.size();
    }

    int ask(int theatre, int usurer, int n) {
        return hasUsurer(theatre, usurer) && n >= 0 && n <= 200 ? rounds(theatre, false)[n][usurer] : NONE;
    }

    int taken(int theatre, int usurer, int n) {
        return hasUsurer(theatre, usurer) && n >= 0 && n <= 200 ? rounds(theatre, true)[n][usurer] : NONE;
    }

    int stands(int theatre, int what) {
        return hasUsurer(theatre, 0) && what >= 0 && what < 2 ? Model.stands(rounds(theatre, false))[what] : NONE;
    }

    int heard(int dark, int k) {
        int[] minutes = minutes(dark);
        if (minutes == null) {
            return REFUSED;
        }
        return k == NONE ? minutes.length : k >= 0 && k < minutes.length ? minutes[k] : REFUSED;
    }

    long ways(int theatre, int dark) {
        return house(theatre) == null || minutes(dark) == null ? NONE : Model.ways(house(theatre), minutes(dark)).size();
    }

    int whose(int theatre, int dark, int k, boolean maybe) {
        if (house(theatre) == null || minutes(dark) == null || k < 0 || k >= minutes(dark).length) {
            return REFUSED;
        }
        int any = 0;
        int all = NONE;
        for (int[] way : Model.ways(house(theatre), minutes(dark))) {
            any |= way[k];
            all &= way[k];
        }
        return maybe ? any : all;
    }

    long drawn(int theatre, int seed, int k, int what) {
        Model.House house = house(theatre);
        if (house == null || k < 0 || k > 20) {
            return NONE;
        }
        Model.State s = Model.drawn(house, seed, k);
        if (what >= 10 && what < 10 + s.saved.length) {
            return s.saved[what - 10].longValueExact();
        }
        return what == 0 ? s.living() : what == 1 ? s.chest : NONE;
    }

    int look(int theatre, int book, int n, int what) {
        Model.State s = reached(theatre, book, n);
        if (s == null) {
            return REFUSED;
        }
        if (what >= 10 && what < 10 + s.saved.length) {
            return s.alive(what - 10) ? Model.tip(s, what - 10) : NONE;
        }
        if (what >= 20 && what < 20 + s.saved.length) {
            return s.alive(what - 20) ? Model.dear(s, what - 20) : 0;
        }
        return what == 0 ? Model.loan(s) : what == 1 ? Model.idol(s) : REFUSED;
    }

    int silence(int theatre, int book, boolean many) {
        if (house(theatre) == null || deeds(book) == null) {
            return NONE;
        }
        return Model.silence(house(theatre), deeds(book))[many ? 1 : 0];
    }

    int count(int sort) {
        return sort >= 0 && sort < 3 ? told.texts.get(sort).size() : REFUSED;
    }

    boolean image(int k) {
        if (k < 0 || k > 2) {
            return false;
        }
        images[k] = told.copy();
        return true;
    }

    boolean again(int k) {
        if (k < 0 || k > 2 || images[k] == null) {
            return false;
        }
        told = images[k].copy();
        return true;
    }
}
