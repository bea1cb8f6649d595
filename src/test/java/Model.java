import java.util.ArrayList;
import java.util.Arrays;
import java.util.List;
import java.util.Map;
import java.util.TreeMap;
import java.util.regex.Matcher;
import java.util.regex.Pattern;

/** The document's terms in their plainest and slowest form, against which the class is tried. */
final class Model {
    static final int NONE = -1;
    private static final Pattern TOKEN = Pattern.compile("[a-z]+|[0-9]+|[^ \\n]", Pattern.DOTALL);
    private static final String[][] RULES = {
        {"palm 0-99 1-2", "actor 0-40 0-400", "usurer 0-30 0-30", "rate 0-50", "chest 0-999", "borrow 0-20"},
        {"clap 0-4 0-5 1-99", "lend 0-4 0-4 1-99", "repay 0-4 0-4 1-99", "hush 0-5 0-4 1-99", "storm 0-5 1-99",
            "encore", "night"},
        {"heard 0-10"}};
    static final List<String> KINDS = List.of("clap", "lend", "repay", "hush", "storm", "encore", "night");

    /** A text read: its lines as words, or a fault and its place. */
    static final class Text {
        final List<String[]> lines = new ArrayList<>();
        int fault;
        int place = NONE;

        private void wrong(int number, int at) {
            if (number == 1 || fault == 0) {
                fault = number;
                place = at;
            }
        }
    }

    static Text read(int sort, String text) {
        Text read = new Text();
        List<String> tokens = new ArrayList<>();
        List<Integer> places = new ArrayList<>();
        Matcher m = TOKEN.matcher(text);
        while (m.find()) {
            tokens.add(m.group());
            places.add(m.start());
        }
        tokens.add("END");
        places.add(text.length());
        Map<String, Integer> seen = new TreeMap<>();
        int i = 0;
        while (!tokens.get(i).equals("END")) {
            String word = tokens.get(i);
            String[] rule = null;
            for (String r : RULES[sort]) {
                if (r.split(" ")[0].equals(word)) {
                    rule = r.split(" ");
                }
            }
            if (rule == null) {
                read.wrong(1, places.get(i));
                return read;
            }
            String counted = sort == 1 ? "deed" : word;
            int most = counted.equals("palm") ? 5 : counted.equals("actor") ? 6 : counted.equals("usurer") ? 4
                : counted.equals("deed") ? 30 : counted.equals("heard") ? 6 : 10000;
            if (seen.merge(counted, 1, Integer::sum) > most) {
                read.wrong(3, places.get(i));
            }
            String[] line = new String[rule.length];
            line[0] = word;
            i++;
            for (int j = 1; j < rule.length; j++, i++) {
                if (!tokens.get(i).matches("[0-9]{1,3}")) {
                    read.wrong(1, places.get(i));
                    return read;
                }
                int n = Integer.parseInt(tokens.get(i));
                line[j] = "" + n;
                String[] span = rule[j].split("-");
                boolean bad = n < Integer.parseInt(span[0]) || n > Integer.parseInt(span[1]);
                bad |= j == 2 && word.equals("usurer") && n > Integer.parseInt(line[1]);
                bad |= j == 2 && (word.equals("lend") || word.equals("repay")) && line[1].equals(line[2]);
                if (bad) {
                    read.wrong(2, places.get(i));
                }
            }
            if (!tokens.get(i).equals(";")) {
                read.wrong(1, places.get(i));
                return read;
            }
            read.lines.add(line);
            i++;
        }
        return read;
    }

    static final class House {
        final List<int[]> palms = new ArrayList<>();
        final List<int[]> actors = new ArrayList<>();
        final List<int[]> usurers = new ArrayList<>();
        int rate = 0;
        int chest = 999;
        int borrow = 0;

        House(Text text) {
            for (String[] line : text.lines) {
                int first = Integer.parseInt(line[1]);
                switch (line[0]) {
                    case "palm" -> palms.add(new int[] {first, Integer.parseInt(line[2])});
                    case "actor" -> actors.add(new int[] {first, Integer.parseInt(line[2])});
                    case "usurer" -> usurers.add(new int[] {first, Integer.parseInt(line[2])});
                    case "rate" -> rate = first;
                    case "chest" -> chest = first;
                    default -> borrow = first;
                }
            }
        }
    }

    static List<int[]> deeds(Text text) {
        List<int[]> deeds = new ArrayList<>();
        for (String[] line : text.lines) {
            int[] deed = {KINDS.indexOf(line[0]), NONE, NONE, NONE};
            for (int j = 1; j < line.length; j++) {
                deed[j] = Integer.parseInt(line[j]);
            }
            deeds.add(deed);
        }
        return deeds;
    }

    static final class State {
        final House house;
        final long[] left;
        final long[][] owes;
        final long[][] got;
        final java.math.BigInteger[] saved;
        final int[] starved;
        final long[] storms;
        final boolean[] hushed;
        long chest;
        int encores;
        int nights;
        int claps;
        int[] last;

        State(House house) {
            this.house = house;
            int p = house.palms.size();
            int a = house.actors.size();
            left = new long[p];
            owes = new long[p][p];
            got = new long[p][a];
            saved = new java.math.BigInteger[a];
            starved = new int[a];
            storms = new long[a];
            hushed = new boolean[p];
            chest = house.chest;
            for (int i = 0; i < p; i++) {
                left[i] = house.palms.get(i)[0];
            }
            for (int i = 0; i < a; i++) {
                saved[i] = java.math.BigInteger.valueOf(house.actors.get(i)[1]);
                starved[i] = NONE;
            }
        }

        boolean can(int[] d) {
            boolean giving = d[0] <= 2 && d[1] < left.length && !hushed[d[1]] && left[d[1]] >= d[3];
            return switch (d[0]) {
                case 0 -> giving && alive(d[2]);
                case 1 -> giving && d[2] < left.length;
                case 2 -> giving && d[2] < left.length && owes[d[1]][d[2]] >= d[3];
                case 3 -> alive(d[1]) && d[2] < left.length && has(d[1], d[3]) && chest >= d[3];
                case 4 -> alive(d[1]);
                default -> true;
            };
        }

        boolean alive(int a) {
            return a < starved.length && starved[a] == NONE;
        }

        boolean has(int a, long halves) {
            return saved[a].compareTo(java.math.BigInteger.valueOf(halves)) >= 0;
        }

        void give(int a, long halves) {
            saved[a] = saved[a].add(java.math.BigInteger.valueOf(halves));
            chest += halves;
        }

        void act(int[] d) {
            switch (d[0]) {
                case 0 -> {
                    long halves = (long) d[3] * house.palms.get(d[1])[1];
                    if (last != null && last[0] == 0 && last[2] == d[2]) {
                        halves += halves;
                    }
                    left[d[1]] -= d[3];
                    got[d[1]][d[2]] += halves;
                    claps += d[3];
                    give(d[2], halves);
                }
                case 1 -> {
                    left[d[1]] -= d[3];
                    left[d[2]] += d[3];
                    owes[d[2]][d[1]] += d[3];
                }
                case 2 -> {
                    left[d[1]] -= d[3];
                    left[d[2]] += d[3];
                    owes[d[1]][d[2]] -= d[3];
                }
                case 3 -> {
                    give(d[1], -d[3]);
                    hushed[d[2]] = true;
                }
                case 4 -> {
                    give(d[1], 2L * d[2]);
                    storms[d[1]] += 2L * d[2];
                }
                case 5 -> encores++;
                default -> night();
            }
            last = d;
        }

        long price(int a, int more) {
            long hunger = house.actors.get(a)[0];
            return hunger + Math.floorDiv(hunger * (encores + more), 10L);
        }

        void night() {
            for (int a = 0; a < starved.length; a++) {
                if (alive(a)) {
                    long price = price(a, 0);
                    if (has(a, price) && chest >= price) {
                        give(a, -price);
                    } else {
                        starved[a] = nights;
                    }
                }
            }
            java.math.BigInteger hundred = java.math.BigInteger.valueOf(100);
            for (int a = 0; a < starved.length; a++) {
                if (alive(a)) {
                    saved[a] = saved[a].add(saved[a].multiply(java.math.BigInteger.valueOf(house.rate)).divide(hundred));
                }
            }
            for (long[] row : owes) {
                for (int q = 0; q < row.length; q++) {
                    row[q] += row[q] * house.rate / 100;
                }
            }
            for (int p = 0; p < left.length; p++) {
                left[p] = house.palms.get(p)[0];
                hushed[p] = false;
            }
            nights++;
        }

        int living() {
            int bits = 0;
            for (int a = 0; a < starved.length; a++) {
                bits |= alive(a) ? 1 << a : 0;
            }
            return bits;
        }

        long need(int a) {
            return !alive(a) || has(a, price(a, 0)) ? 0 : price(a, 0) - saved[a].longValueExact();
        }
    }

    /** The state behind the first n deeds; null if there is none. */
    static State state(House house, List<int[]> deeds, int n) {
        State s = new State(house);
        if (n < 0 || n > deeds.size()) {
            return null;
        }
        for (int k = 0; k < n; k++) {
            if (!s.can(deeds.get(k))) {
                return null;
            }
            s.act(deeds.get(k));
        }
        return s;
    }

    static int stop(House house, List<int[]> deeds) {
        int n = 0;
        while (n < deeds.size() && state(house, deeds, n + 1) != null) {
            n++;
        }
        return n;
    }

    /** Doomed and in danger, by all orders. */
    static int[] run(State s) {
        List<Integer> live = new ArrayList<>();
        for (int a = 0; a < s.starved.length; a++) {
            if (s.alive(a)) {
                live.add(a);
            }
        }
        int[] found = {s.living(), 0};
        orders(s, live, s.chest, 0, found);
        return found;
    }

    private static void orders(State s, List<Integer> waiting, long chest, int starving, int[] found) {
        if (waiting.isEmpty()) {
            found[0] &= starving;
            found[1] |= starving;
        }
        for (int i = 0; i < waiting.size(); i++) {
            List<Integer> rest = new ArrayList<>(waiting);
            int a = rest.remove(i);
            long price = s.price(a, 0);
            boolean eats = s.has(a, price) && chest >= price;
            orders(s, rest, eats ? chest - price : chest, eats ? starving : starving | 1 << a, found);
        }
    }

    /** How many eat, who, claps of two hands, of one: for each set and each number of two-handed claps the fewest others. */
    static int[] feast(State s) {
        long two = 0;
        long one = 0;
        for (int p = 0; p < s.left.length; p++) {
            if (!s.hushed[p] && s.house.palms.get(p)[1] == 2) {
                two += s.left[p];
            } else if (!s.hushed[p]) {
                one += s.left[p];
            }
        }
        int[] best = {0, 0, 0, 0};
        for (int set = 0; set < 64; set++) {
            if ((set & ~s.living()) != 0) {
                continue;
            }
            long[] fewest = new long[(int) two + 1];
            Arrays.fill(fewest, Long.MAX_VALUE / 2);
            fewest[0] = 0;
            for (int a = 0; a < 6; a++) {
                if ((set >> a & 1) == 0) {
                    continue;
                }
                long need = s.need(a);
                long[] next = new long[fewest.length];
                Arrays.fill(next, Long.MAX_VALUE / 2);
                for (int x = 0; x < fewest.length; x++) {
                    for (int more = 0; x + more < fewest.length && more <= need; more++) {
                        next[x + more] = Math.min(next[x + more], fewest[x] + Math.max(0, need - 2L * more));
                    }
                }
                fewest = next;
            }
            for (int x = 0; x < fewest.length; x++) {
                if (fewest[x] <= one) {
                    int[] now = {Integer.bitCount(set), set, x, (int) fewest[x]};
                    int[] was = best;
                    long[] nowKey = {-now[0], now[2] + now[3], now[2], now[1]};
                    long[] wasKey = {-was[0], was[2] + was[3], was[2], was[1]};
                    if (Arrays.compare(nowKey, wasKey) < 0) {
                        best = now;
                    }
                }
            }
        }
        return best;
    }

    /** Asks behind each round, 0 .. 200, and taken in so many rounds. */
    static int[][] asks(House house, int[][] taken) {
        int u = house.usurers.size();
        int[][] asks = new int[201][u];
        for (int i = 0; i < u; i++) {
            asks[0][i] = house.usurers.get(i)[0];
        }
        for (int r = 0; r < 200; r++) {
            int least = 0;
            for (int i = 0; i < u; i++) {
                least = asks[r][i] < asks[r][least] ? i : least;
            }
            for (int i = 0; i < u; i++) {
                boolean came = i == least && house.borrow > 0;
                taken[r + 1][i] = taken[r][i] + (came ? house.borrow * asks[r][i] : 0);
                asks[r + 1][i] = came ? Math.min(30, asks[r][i] + 1) : Math.max(house.usurers.get(i)[1], asks[r][i] - 1);
            }
        }
        return asks;
    }

    /** All ways in which the minutes may have gone, each as a row of sets of palms. */
    static List<int[]> ways(House house, int[] heard) {
        List<int[]> all = new ArrayList<>();
        minutes(house, heard, new int[heard.length], 0, all);
        return all;
    }

    private static void minutes(House house, int[] heard, int[] sets, int k, List<int[]> all) {
        if (k == heard.length) {
            all.add(sets.clone());
            return;
        }
        for (int set = 0; set < 1 << house.palms.size(); set++) {
            sets[k] = set;
            int halves = 0;
            boolean tired = false;
            for (int p = 0; p < house.palms.size(); p++) {
                if ((set >> p & 1) != 0) {
                    halves += house.palms.get(p)[1];
                    int often = 0;
                    for (int m = 0; m <= k; m++) {
                        often += sets[m] >> p & 1;
                    }
                    tired |= often > house.palms.get(p)[0];
                }
            }
            if (halves == heard[k] && !tired) {
                minutes(house, heard, sets, k + 1, all);
            }
        }
    }

    static State drawn(House house, int seed, int evenings) {
        State s = new State(house);
        int x = seed;
        for (int e = 0; e < evenings; e++) {
            for (int[] palm : house.palms) {
                for (int c = 0; c < palm[0]; c++) {
                    int n = Integer.bitCount(s.living());
                    if (n == 0) {
                        continue;
                    }
                    x = x * 1103515245 + 12345;
                    int nth = (x >>> 16) % n;
                    int a = 0;
                    while (!s.alive(a) || nth-- > 0) {
                        a++;
                    }
                    s.give(a, palm[1]);
                }
            }
            s.night();
        }
        return s;
    }

    static int[] silence(House house, List<int[]> deeds) {
        int[] best = {NONE, NONE};
        int stop = stop(house, deeds);
        for (int p = 0; p < house.palms.size(); p++) {
            State s = new State(house);
            for (int[] d : deeds.subList(0, stop)) {
                boolean his = d[0] <= 2 && d[1] == p || (d[0] == 1 || d[0] == 2) && d[2] == p;
                if (!his && s.can(d)) {
                    s.act(d);
                }
            }
            int starved = house.actors.size() - Integer.bitCount(s.living());
            if (starved > best[1]) {
                best = new int[] {p, starved};
            }
        }
        return best;
    }

    private static State copy(House house, State s) {
        State t = new State(house);
        t.chest = s.chest;
        t.encores = s.encores;
        for (int a = 0; a < s.saved.length; a++) {
            t.saved[a] = s.saved[a];
            t.starved[a] = s.starved[a];
        }
        return t;
    }

    static int nights(House house, State s, int a) {
        State t = copy(house, s);
        int n = 0;
        while (n < 99) {
            t.night();
            if (!t.alive(a)) {
                break;
            }
            n++;
        }
        return n;
    }

    /** Nobody else there, and a chest that holds whatever may be eaten. */
    static int star(State s, int a) {
        State t = copy(s.house, s);
        for (int b = 0; b < t.starved.length; b++) {
            t.starved[b] = b == a ? -1 : 0;
        }
        t.chest = 1_000_000_000;
        return nights(s.house, t, a);
    }

    static int tip(State s, int a) {
        for (int t = 0; t <= 99; t++) {
            State with = copy(s.house, s);
            with.give(a, 2L * t);
            with.night();
            if (with.alive(a)) {
                return t;
            }
        }
        return -1;
    }

    static int dear(State s, int a) {
        int more = 0;
        while (more < 99 && s.has(a, s.price(a, more))) {
            more++;
        }
        return more;
    }

    /** The palm that owes most, all together. */
    static int loan(State s) {
        int loan = NONE;
        long most = 0;
        for (int p = 0; p < s.left.length; p++) {
            long sum = Arrays.stream(s.owes[p]).sum();
            if (sum > most) {
                loan = p;
                most = sum;
            }
        }
        return loan;
    }

    static int idol(State s) {
        int idol = NONE;
        long most = 0;
        for (int a = 0; a < s.saved.length; a++) {
            long sum = 0;
            for (long[] row : s.got) {
                sum += row[a];
            }
            if (sum > most) {
                idol = a;
                most = sum;
            }
        }
        return idol;
    }

    /** The first round behind which all asks are as before, and by how many rounds that was earlier. */
    static int[] stands(int[][] asks) {
        for (int r = 1; r <= 200 && asks[0].length > 0; r++) {
            for (int past = r - 1; past >= 0; past--) {
                if (Arrays.equals(asks[past], asks[r])) {
                    return new int[] {r, r - past};
                }
            }
        }
        return new int[] {NONE, NONE};
    }
}
