import java.math.BigInteger;
import java.util.ArrayList;
import java.util.List;
import java.util.Random;

/** Random theatres, books and darks: every answer of the class against the plain model. */
public final class ModelTest {
    private static final Checks checks = new Checks();
    private static final Random random = new Random(20261118);
    private static final Texts texts = new Texts(random);

    public static void main(String[] args) {
        for (int i = 0; i < 4000; i++) {
            tryFaults();
        }
        for (int i = 0; i < 1500; i++) {
            tryEvening();
        }
        for (int i = 0; i < 600; i++) {
            tryDark();
        }
        checks.finish();
    }

    private static int upTo(int most) {
        return texts.upTo(most);
    }

    private static void tryEvening() {
        String theatreText = texts.theatre(upTo(2) > 0);
        Model.House house = new Model.House(Model.read(0, theatreText));
        String bookText = texts.book(house);
        List<int[]> deeds = Model.deeds(Model.read(1, bookText));
        ClapBank bank = new ClapBank();
        checks.due("text " + theatreText, Checks.tell(bank, 0, -1, theatreText), 0);
        checks.due("text " + bookText, Checks.tell(bank, 1, -1, bookText), 0);
        String told = theatreText + " / " + bookText;
        int stop = Model.stop(house, deeds);
        checks.due("stop " + told, bank.stop(0, 0), stop);
        int[] silence = Model.silence(house, deeds);
        checks.due("silence " + told, bank.silence(0, 0, false), silence[0]);
        checks.due("silence many " + told, bank.silence(0, 0, true), silence[1]);
        checks.due("no state " + told, bank.state(0, 0, stop + 1, 0), -2);
        for (int k = 0; k < deeds.size(); k++) {
            for (int what = 0; what < 4; what++) {
                checks.due("deed " + k + " " + what + told, bank.deed(0, k, what), deeds.get(k)[what]);
            }
        }
        for (int n : new int[] {0, upTo(stop), upTo(stop), stop}) {
            compareState(bank, house, deeds, n, "n " + n + " of " + told + ": ");
        }
        compareUsurers(bank, house, told);
        int seed = random.nextInt();
        int evenings = upTo(20);
        Model.State s = Model.drawn(house, seed, evenings);
        String of = "drawn " + seed + " " + evenings + " of " + told + ": ";
        checks.due(of + "lives", bank.drawn(0, seed, evenings, 0), s.living());
        checks.due(of + "chest", bank.drawn(0, seed, evenings, 1), s.chest);
        for (int a = 0; a < 6; a++) {
            long want = a < s.saved.length ? s.saved[a].longValueExact() : -1;
            checks.due(of + "saved " + a, bank.drawn(0, seed, evenings, 10 + a), want);
        }
    }

    private static void compareState(ClapBank bank, Model.House house, List<int[]> deeds, int n, String of) {
        Model.State s = Model.state(house, deeds, n);
        int hushed = 0;
        for (int p = 0; p < s.hushed.length; p++) {
            hushed |= s.hushed[p] ? 1 << p : 0;
        }
        BigInteger all = BigInteger.ZERO;
        long needs = 0;
        for (int a = 0; a < s.saved.length; a++) {
            all = s.alive(a) ? all.add(s.saved[a]) : all;
            needs += s.need(a);
        }
        long[] want = {s.chest, s.encores, s.nights, s.living(), hushed, all.longValueExact(), s.claps, -2};
        for (int what = 0; what < want.length; what++) {
            checks.due(of + "state " + what, bank.state(0, 0, n, what), want[what]);
        }
        comparePalms(bank, s, n, of);
        compareActors(bank, s, n, of);
        int[] run = Model.run(s);
        checks.due(of + "doomed", bank.run(0, 0, n, 0), run[0]);
        checks.due(of + "danger", bank.run(0, 0, n, 1), run[1]);
        int[] feast = Model.feast(s);
        for (int what = 0; what < 4; what++) {
            checks.due(of + "feast " + what, bank.feast(0, 0, n, what), feast[what]);
        }
        long left = 0;
        for (long one : s.left) {
            left += one;
        }
        long common = BigInteger.valueOf(needs).gcd(BigInteger.valueOf(left)).longValueExact();
        checks.due(of + "fair", bank.fair(0, 0, n, false), left == 0 ? -2 : needs / common);
        checks.due(of + "fair under", bank.fair(0, 0, n, true), left == 0 ? -2 : left / common);
    }

    private static void comparePalms(ClapBank bank, Model.State s, int n, String of) {
        for (int p = 0; p < 5; p++) {
            boolean there = p < s.left.length;
            checks.due(of + "left " + p, bank.palm(0, 0, n, p, 0), there ? s.left[p] : -2);
            for (int q = 0; q < 5; q++) {
                boolean both = there && q < s.left.length && p != q;
                checks.due(of + "owes " + p + q, bank.palm(0, 0, n, p, 10 + q), both ? s.owes[p][q] : -2);
            }
            for (int a = 0; a < 6; a++) {
                boolean both = there && a < s.saved.length;
                checks.due(of + "got " + p + a, bank.palm(0, 0, n, p, 20 + a), both ? s.got[p][a] : -2);
            }
        }
        checks.due(of + "loan", bank.look(0, 0, n, 0), Model.loan(s));
    }

    private static void compareActors(ClapBank bank, Model.State s, int n, String of) {
        for (int a = 0; a < s.saved.length; a++) {
            boolean live = s.alive(a);
            long[] want = {s.saved[a].longValueExact(), live ? 1 : 0, live ? s.price(a, 0) : 0, s.need(a), s.starved[a],
                live ? Model.nights(s.house, s, a) : 0, live ? Model.star(s, a) : 0, s.storms[a], -2};
            for (int what = 0; what < want.length; what++) {
                checks.due(of + "actor " + a + " " + what, bank.actor(0, 0, n, a, what), want[what]);
            }
            checks.due(of + "tip " + a, bank.look(0, 0, n, 10 + a), live ? Model.tip(s, a) : -1);
            checks.due(of + "dear " + a, bank.look(0, 0, n, 20 + a), live ? Model.dear(s, a) : 0);
        }
        checks.due(of + "idol", bank.look(0, 0, n, 1), Model.idol(s));
        int none = s.saved.length;
        checks.due(of + "no actor", bank.actor(0, 0, n, none, 0), -2);
        checks.due(of + "no tip", bank.look(0, 0, n, 10 + none), -2);
        checks.due(of + "no dear", bank.look(0, 0, n, 20 + none), -2);
    }

    private static void compareUsurers(ClapBank bank, Model.House house, String told) {
        int u = house.usurers.size();
        int[][] taken = new int[201][u];
        int[][] asks = Model.asks(house, taken);
        for (int n : new int[] {0, 1, upTo(200), upTo(50), 200}) {
            for (int i = 0; i < 4; i++) {
                checks.due("ask " + i + " " + n + " " + told, bank.ask(0, i, n), i < u ? asks[n][i] : -1);
                checks.due("taken " + i + " " + n + " " + told, bank.taken(0, i, n), i < u ? taken[n][i] : -1);
            }
        }
        int[] stands = Model.stands(asks);
        checks.due("stands " + told, bank.stands(0, 0), stands[0]);
        checks.due("period " + told, bank.stands(0, 1), stands[1]);
    }

    private static void tryDark() {
        StringBuilder theatre = new StringBuilder();
        int palms = upTo(5);
        int sum = 0;
        for (int p = 0; p < palms; p++) {
            int hands = 1 + upTo(1);
            sum += hands;
            theatre.append("palm ").append(upTo(4)).append(' ').append(hands).append(';');
        }
        String dark = texts.dark(sum);
        int[] heard = Model.read(2, dark).lines.stream().mapToInt(line -> Integer.parseInt(line[1])).toArray();
        ClapBank bank = new ClapBank();
        Checks.tell(bank, 0, -1, theatre.toString());
        checks.due("text " + dark, Checks.tell(bank, 2, -1, dark), 0);
        List<int[]> ways = Model.ways(new Model.House(Model.read(0, theatre.toString())), heard);
        String of = theatre + " / " + dark;
        checks.due("ways " + of, bank.ways(0, 0), ways.size());
        checks.due("minutes " + of, bank.heard(0, -1), heard.length);
        for (int k = 0; k < heard.length; k++) {
            int any = 0;
            int all = -1;
            for (int[] way : ways) {
                any |= way[k];
                all &= way[k];
            }
            checks.due("heard " + k + of, bank.heard(0, k), heard[k]);
            checks.due("maybe " + k + of, bank.whose(0, 0, k, true), any);
            checks.due("sure " + k + of, bank.whose(0, 0, k, false), all);
        }
    }

    /** Good texts with a few signs or lines spoilt, or with lines too many. */
    private static void tryFaults() {
        int sort = upTo(2);
        StringBuilder text = new StringBuilder();
        String[] lines = {"palm 9 1;", "actor 9 9;", "usurer 3 2;", "rate 5;", "chest 77;", "borrow 3;", "clap 0 1 2;",
            "lend 0 1 2;", "repay 1 0 3;", "hush 1 0 3;", "storm 1 1;", "encore;", "night;", "heard 10;"};
        int[] first = {0, 6, 13, 14};
        int many = upTo(5) == 0 ? 40 : upTo(9);
        for (int i = 0; i < many; i++) {
            text.append(lines[first[sort] + random.nextInt(first[sort + 1] - first[sort])]);
        }
        String spoilt = texts.spoilt(text.toString());
        Model.Text read = Model.read(sort, spoilt);
        ClapBank bank = new ClapBank();
        String of = "text " + sort + " '" + spoilt + "'";
        checks.due(of, Checks.tell(bank, sort, -1, spoilt), read.fault == 0 ? 0 : -1);
        checks.due(of + " fault", bank.fault(0), read.fault);
        checks.due(of + " place", bank.fault(1), read.place);
        checks.due(of + " count", bank.count(sort), read.fault == 0 ? 1 : 0);
        checks.due(of + " tape", bank.end(1), -1);
        if (read.fault == 0 && sort == 0) {
            compareTheatre(bank, new Model.House(read), of);
        }
    }

    private static void compareTheatre(ClapBank bank, Model.House house, String of) {
        int[] whole = {house.palms.size(), house.actors.size(), house.rate, house.chest, house.usurers.size(), house.borrow};
        List<List<int[]>> rows = new ArrayList<>(List.of(house.palms, house.actors, house.usurers));
        for (int what = -3; what < 90; what++) {
            int want = -1;
            if (what >= 0 && what < whole.length) {
                want = whole[what];
            } else if (what >= 10 && what < 70) {
                List<int[]> row = rows.get((what - 10) / 20);
                want = what % 10 < row.size() ? row.get(what % 10)[(what / 10 - 1) % 2] : -1;
            }
            checks.due(of + " theatre " + what, bank.theatre(0, what), want);
        }
    }
}
