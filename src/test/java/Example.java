/** The example of README.md, which ReadmeTest holds to it, line by line and answer by answer. */
public final class Example {
    private Example() {
    }

    public static void main(String[] args) {
        ClapBank bank = new ClapBank();
        int theatre = tell(bank, 0, "palm 5 2; palm 4 1; palm 0 2; actor 10 6; actor 4 20; actor 7 0; rate 10; chest 30;"
            + "usurer 5 3; usurer 4 4; borrow 2;");
        int book = tell(bank, 1, "clap 0 0 2; clap 1 0 1; lend 0 2 2; clap 2 2 1; hush 1 1 5; encore; storm 2 1;"
            + "repay 2 0 1; night; clap 1 2 2;");
        int dark = tell(bank, 2, "heard 2; heard 3;");

        System.out.println(bank.stop(theatre, book)); // 9: the last clap is for one who starved
        System.out.println(bank.state(theatre, book, 9, 0)); // 20 halves in the chest
        System.out.println(bank.state(theatre, book, 9, 10)); // -2: there is no such thing of a state
        System.out.println(bank.palm(theatre, book, 8, 2, 10)); // 1 clap that palm 2 owes palm 0
        System.out.println(bank.actor(theatre, book, 8, 2, 3)); // 3 halves that actor 2 lacks to eat tonight
        System.out.println(bank.actor(theatre, book, 9, 2, 4)); // 0: the night on which he starved
        System.out.println(bank.feast(theatre, book, 8, 2)); // 2 claps of two hands feed all three
        System.out.println(bank.look(theatre, book, 8, 12)); // 2 claps: the tip of actor 2
        System.out.println(bank.ask(theatre, 1, 1)); // 5: what usurer 1 asks behind one round
        System.out.println(bank.ways(theatre, dark)); // 1 way: palm 0, then he and palm 1

        System.out.println(tell(bank, 0, "palm 100 2;")); // -1: a fault
        System.out.println(bank.fault(0)); // 2: a number that can't be
        System.out.println(bank.fault(1)); // 5: where it begins
    }

    /** Puts a text on the empty tape and takes it as a further one of its sort. */
    static int tell(ClapBank bank, int sort, String text) {
        bank.end(0);
        for (int at = 0; at < text.length(); at += 20) {
            int[] five = new int[5];
            for (int i = 0; i < 20; i++) {
                int sign = at + i < text.length() ? text.charAt(at + i) : ' ';
                five[i / 4] = five[i / 4] << 8 | sign;
            }
            bank.feed(five[0], five[1], five[2], five[3], five[4]);
        }
        bank.end(text.length());
        return bank.text(sort, ClapBank.NONE);
    }
}
