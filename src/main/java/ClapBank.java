import java.util.Arrays;

/** Applause on credit: see README.md for the use, and the project's document for the promises. */
public final class ClapBank {
    public static final int NONE = -1;

    private static final int REFUSED = -2;
    private static final int TAPE = 600;
    private static final int TEXTS = 2;
    private static final int IMAGES = 3;
    private static final int PALMS = 5;
    private static final int ACTORS = 6;
    private static final int USURERS = 4;
    private static final int DEEDS = 30;
    private static final int MINUTES = 6;
    private static final int ROUNDS = 200;
    private static final int MOST = 99;
    private static final int EVENINGS = 20;

    private static final int SORT_THEATRE = 0;
    private static final int SORT_BOOK = 1;
    private static final int SORT_DARK = 2;

    private static final int CLAP = 0;
    private static final int LEND = 1;
    private static final int REPAY = 2;
    private static final int HUSH = 3;
    private static final int STORM = 4;
    private static final int ENCORE = 5;
    private static final int NIGHT = 6;

    private final Told told;
    private final Told[] images;
    private final Reader reader;
    private final Evening evening;
    private final Feast table;
    private final Rounds rounds;
    private final Hearing hearing;

    public ClapBank() {
        told = new Told();
        images = new Told[IMAGES];
        reader = new Reader();
        evening = new Evening();
        table = new Feast();
        rounds = new Rounds();
        hearing = new Hearing();
    }

    public int feed(int a, int b, int c, int d, int e) {
        if (told.length + 20 > TAPE) {
            return NONE;
        }
        told.append(a);
        told.append(b);
        told.append(c);
        told.append(d);
        told.append(e);
        return told.length;
    }

    public int end(int n) {
        if (n < 0 || n > told.length) {
            return NONE;
        }
        told.length = n;
        return n;
    }

    public int text(int sort, int at) {
        // Whatever becomes of it, the tape is taken: also if no text is read.
        int length = told.length;
        told.length = 0;
        told.fault = 0;
        told.place = NONE;
        int many = told.howMany(sort);
        boolean further = at == NONE;
        if (many < 0 || (further && many >= TEXTS) || (!further && (at < 0 || at >= many))) {
            return REFUSED;
        }
        reader.read(told.tape, length, sort);
        told.fault = reader.fault;
        told.place = reader.place;
        if (reader.fault != 0) {
            return NONE;
        }
        int number = further ? many : at;
        told.put(sort, number, reader);
        return number;
    }

    public int fault(int what) {
        if (what == 0) {
            return told.fault;
        }
        return what == 1 ? told.place : NONE;
    }

    public int theatre(int theatre, int what) {
        Theatre house = told.theatreAt(theatre);
        return house == null ? NONE : house.tell(what);
    }

    public int deed(int book, int k, int what) {
        Book written = told.bookAt(book);
        if (written == null || what < 0 || what > 3) {
            return REFUSED;
        }
        if (k == NONE) {
            return what == 0 ? written.deeds : REFUSED;
        }
        return k >= 0 && k < written.deeds ? written.part(k, what) : REFUSED;
    }

    public int stop(int theatre, int book) {
        Theatre house = told.theatreAt(theatre);
        Book deeds = told.bookAt(book);
        if (house == null || deeds == null) {
            return NONE;
        }
        return evening.playAll(house, deeds);
    }

    public int state(int theatre, int book, int n, int what) {
        return reach(theatre, book, n) ? evening.tell(what) : REFUSED;
    }

    public int palm(int theatre, int book, int n, int palm, int what) {
        if (!reach(theatre, book, n) || !evening.hasPalm(palm)) {
            return REFUSED;
        }
        return evening.tellPalm(palm, what);
    }

    public int actor(int theatre, int book, int n, int actor, int what) {
        if (!reach(theatre, book, n) || !evening.hasActor(actor)) {
            return REFUSED;
        }
        return evening.tellActor(actor, what);
    }

    public int run(int theatre, int book, int n, int what) {
        if (what < 0 || what > 1 || !reach(theatre, book, n)) {
            return REFUSED;
        }
        return what == 0 ? evening.doomed() : evening.danger();
    }

    public int feast(int theatre, int book, int n, int what) {
        if (what < 0 || what > 3 || !reach(theatre, book, n)) {
            return REFUSED;
        }
        table.lay(evening);
        return table.tell(what);
    }

    public int fair(int theatre, int book, int n, boolean under) {
        if (!reach(theatre, book, n)) {
            return REFUSED;
        }
        int claps = evening.allLeft();
        if (claps <= 0) {
            return REFUSED;
        }
        int needs = evening.allNeeds();
        int common = commonPart(needs, claps);
        if (common <= 0) {
            return REFUSED;
        }
        return (under ? claps : needs) / common;
    }

    public int ask(int theatre, int usurer, int n) {
        return lendFor(theatre, usurer, n) ? rounds.asks[usurer] : NONE;
    }

    public int taken(int theatre, int usurer, int n) {
        return lendFor(theatre, usurer, n) ? rounds.gains[usurer] : NONE;
    }

    public int stands(int theatre, int what) {
        Theatre house = told.theatreAt(theatre);
        if (house == null || house.usurers == 0 || what < 0 || what > 1) {
            return NONE;
        }
        int round = rounds.findRepeat(house);
        if (round == NONE) {
            return NONE;
        }
        return what == 0 ? round : rounds.period;
    }

    public int heard(int dark, int k) {
        Dark night = told.darkAt(dark);
        if (night == null) {
            return REFUSED;
        }
        if (k == NONE) {
            return night.minutes;
        }
        return night.hasMinute(k) ? night.halves[k] : REFUSED;
    }

    public long ways(int theatre, int dark) {
        Theatre house = told.theatreAt(theatre);
        Dark night = told.darkAt(dark);
        if (house == null || night == null) {
            return NONE;
        }
        hearing.listen(house, night);
        return hearing.tally(NONE, 0);
    }

    public int whose(int theatre, int dark, int k, boolean maybe) {
        Theatre house = told.theatreAt(theatre);
        Dark night = told.darkAt(dark);
        if (house == null || night == null || !night.hasMinute(k)) {
            return REFUSED;
        }
        hearing.listen(house, night);
        hearing.compareMinute(k);
        return maybe ? hearing.any : hearing.all;
    }

    public int drawn(int theatre, int seed, int k, int what) {
        Theatre house = told.theatreAt(theatre);
        if (house == null || k < 0 || k > EVENINGS) {
            return NONE;
        }
        boolean ofActor = what >= 10 && what - 10 < house.actors;
        if (what != 0 && what != 1 && !ofActor) {
            return NONE;
        }
        evening.playDrawn(house, seed, k);
        if (ofActor) {
            return evening.saved[what - 10];
        }
        return what == 0 ? evening.living() : evening.chest;
    }

    public int look(int theatre, int book, int n, int what) {
        if (!reach(theatre, book, n)) {
            return REFUSED;
        }
        if (what == 0) {
            return evening.loan();
        }
        if (what == 1) {
            return evening.idol();
        }
        if (what >= 10 && evening.hasActor(what - 10)) {
            return evening.tip(what - 10);
        }
        if (what >= 20 && evening.hasActor(what - 20)) {
            return evening.dear(what - 20);
        }
        return REFUSED;
    }

    public int silence(int theatre, int book, boolean many) {
        Theatre house = told.theatreAt(theatre);
        Book deeds = told.bookAt(book);
        if (house == null || deeds == null) {
            return NONE;
        }
        int stop = evening.playAll(house, deeds);
        int missed = NONE;
        int most = NONE;
        for (int p = 0; p < house.palms; p++) {
            evening.playWithout(house, deeds, stop, p);
            int starved = house.actors - Integer.bitCount(evening.living());
            if (starved > most) {
                missed = p;
                most = starved;
            }
        }
        return many ? most : missed;
    }

    public int count(int sort) {
        return told.howMany(sort);
    }

    public boolean image(int k) {
        if (k < 0 || k >= IMAGES) {
            return false;
        }
        Told kept = images[k];
        if (kept == null) {
            kept = new Told();
            images[k] = kept;
        }
        kept.copyFrom(told);
        return true;
    }

    public boolean again(int k) {
        if (k < 0 || k >= IMAGES) {
            return false;
        }
        Told kept = images[k];
        if (kept == null) {
            return false;
        }
        told.copyFrom(kept);
        return true;
    }

    /** Plays the first n deeds; false if there is no such state. */
    private boolean reach(int theatre, int book, int n) {
        Theatre house = told.theatreAt(theatre);
        Book deeds = told.bookAt(book);
        if (house == null || deeds == null || n < 0 || n > deeds.deeds) {
            return false;
        }
        return evening.playFirst(house, deeds, n);
    }

    /** Goes n rounds of the usurers; false if there is no such usurer or no such number of rounds. */
    private boolean lendFor(int theatre, int usurer, int n) {
        Theatre house = told.theatreAt(theatre);
        if (house == null || usurer < 0 || usurer >= house.usurers || n < 0 || n > ROUNDS) {
            return false;
        }
        rounds.begin(house);
        for (int i = 0; i < n; i++) {
            rounds.goRound();
        }
        return true;
    }

    private static int commonPart(int a, int b) {
        int high = a;
        int low = b;
        for (int i = 0; i < 100 && low != 0; i++) {
            int rest = high % low;
            high = low;
            low = rest;
        }
        return high;
    }

    /** A theatre as told. */
    private static final class Theatre {
        private int palms;
        private final int[] claps = new int[PALMS];
        private final int[] hands = new int[PALMS];
        private int actors;
        private final int[] hunger = new int[ACTORS];
        private final int[] saved = new int[ACTORS];
        private int usurers;
        private final int[] asks = new int[USURERS];
        private final int[] floors = new int[USURERS];
        private int rate;
        private int chest;
        private int borrowers;

        void clear() {
            palms = 0;
            actors = 0;
            usurers = 0;
            rate = 0;
            chest = 999;
            borrowers = 0;
        }

        void copyFrom(Theatre other) {
            palms = other.palms;
            actors = other.actors;
            usurers = other.usurers;
            rate = other.rate;
            chest = other.chest;
            borrowers = other.borrowers;
            System.arraycopy(other.claps, 0, claps, 0, PALMS);
            System.arraycopy(other.hands, 0, hands, 0, PALMS);
            System.arraycopy(other.hunger, 0, hunger, 0, ACTORS);
            System.arraycopy(other.saved, 0, saved, 0, ACTORS);
            System.arraycopy(other.asks, 0, asks, 0, USURERS);
            System.arraycopy(other.floors, 0, floors, 0, USURERS);
        }

        void addPalm(int itsClaps, int itsHands) {
            if (palms < PALMS) {
                claps[palms] = itsClaps;
                hands[palms] = itsHands;
                palms++;
            }
        }

        void addActor(int itsHunger, int itsSaved) {
            if (actors < ACTORS) {
                hunger[actors] = itsHunger;
                saved[actors] = itsSaved;
                actors++;
            }
        }

        void addUsurer(int itsAsk, int itsFloor) {
            if (usurers < USURERS) {
                asks[usurers] = itsAsk;
                floors[usurers] = itsFloor;
                usurers++;
            }
        }

        int tell(int what) {
            if (what < 0) {
                return NONE;
            }
            int i = what % 10;
            switch (what / 10) {
                case 0: return tellWhole(i);
                case 1: return i < palms ? claps[i] : NONE;
                case 2: return i < palms ? hands[i] : NONE;
                case 3: return i < actors ? hunger[i] : NONE;
                case 4: return i < actors ? saved[i] : NONE;
                case 5: return i < usurers ? asks[i] : NONE;
                case 6: return i < usurers ? floors[i] : NONE;
                default: return NONE;
            }
        }

        private int tellWhole(int what) {
            switch (what) {
                case 0: return palms;
                case 1: return actors;
                case 2: return rate;
                case 3: return chest;
                case 4: return usurers;
                case 5: return borrowers;
                default: return NONE;
            }
        }
    }

    /** The deeds of evenings as told, four numbers each: the kind, then its own numbers or NONE. */
    private static final class Book {
        private int deeds;
        private final int[] parts = new int[DEEDS * 4];

        void copyFrom(Book other) {
            deeds = other.deeds;
            System.arraycopy(other.parts, 0, parts, 0, DEEDS * 4);
        }

        void addDeed(int kind, int first, int second, int third) {
            if (deeds < DEEDS) {
                int at = deeds * 4;
                parts[at] = kind;
                parts[at + 1] = first;
                parts[at + 2] = second;
                parts[at + 3] = third;
                deeds++;
            }
        }

        int part(int k, int what) {
            return parts[k * 4 + what];
        }

        /** Whether deed k is a clap, a loan or a repayment that names the palm. */
        boolean isOf(int k, int palm) {
            int kind = part(k, 0);
            boolean exchange = kind == LEND || kind == REPAY;
            return ((exchange || kind == CLAP) && part(k, 1) == palm) || (exchange && part(k, 2) == palm);
        }
    }

    /** What was heard in the dark, minute by minute. */
    private static final class Dark {
        private int minutes;
        private final int[] halves = new int[MINUTES];

        void copyFrom(Dark other) {
            minutes = other.minutes;
            System.arraycopy(other.halves, 0, halves, 0, MINUTES);
        }

        void addMinute(int itsHalves) {
            if (minutes < MINUTES) {
                halves[minutes] = itsHalves;
                minutes++;
            }
        }

        boolean hasMinute(int k) {
            return k >= 0 && k < minutes;
        }
    }

    /** All that is told: what an image keeps. */
    private static final class Told {
        private final byte[] tape = new byte[TAPE];
        private int length;
        private int fault;
        private int place = NONE;
        private int theatres;
        private int books;
        private int darks;
        private final Theatre firstTheatre = new Theatre();
        private final Theatre secondTheatre = new Theatre();
        private final Book firstBook = new Book();
        private final Book secondBook = new Book();
        private final Dark firstDark = new Dark();
        private final Dark secondDark = new Dark();

        void append(int four) {
            for (int shift = 24; shift >= 0 && length < TAPE; shift -= 8) {
                tape[length] = (byte) (four >>> shift);
                length++;
            }
        }

        int howMany(int sort) {
            switch (sort) {
                case SORT_THEATRE: return theatres;
                case SORT_BOOK: return books;
                case SORT_DARK: return darks;
                default: return REFUSED;
            }
        }

        Theatre theatreAt(int at) {
            if (at < 0 || at >= theatres) {
                return null;
            }
            return at == 0 ? firstTheatre : secondTheatre;
        }

        Book bookAt(int at) {
            if (at < 0 || at >= books) {
                return null;
            }
            return at == 0 ? firstBook : secondBook;
        }

        Dark darkAt(int at) {
            if (at < 0 || at >= darks) {
                return null;
            }
            return at == 0 ? firstDark : secondDark;
        }

        void put(int sort, int number, Reader read) {
            if (sort == SORT_THEATRE) {
                (number == 0 ? firstTheatre : secondTheatre).copyFrom(read.theatre);
                theatres = Math.max(theatres, number + 1);
            } else if (sort == SORT_BOOK) {
                (number == 0 ? firstBook : secondBook).copyFrom(read.book);
                books = Math.max(books, number + 1);
            } else {
                (number == 0 ? firstDark : secondDark).copyFrom(read.dark);
                darks = Math.max(darks, number + 1);
            }
        }

        void copyFrom(Told other) {
            System.arraycopy(other.tape, 0, tape, 0, TAPE);
            length = other.length;
            fault = other.fault;
            place = other.place;
            theatres = other.theatres;
            books = other.books;
            darks = other.darks;
            firstTheatre.copyFrom(other.firstTheatre);
            secondTheatre.copyFrom(other.secondTheatre);
            firstBook.copyFrom(other.firstBook);
            secondBook.copyFrom(other.secondBook);
            firstDark.copyFrom(other.firstDark);
            secondDark.copyFrom(other.secondDark);
        }
    }

    /** Reads a text into a theatre, a book or a dark of its own, so that a fault leaves what is told alone. */
    private static final class Reader {
        private static final int AT_END = 0;
        private static final int WORD = 1;
        private static final int NUMBER = 2;
        private static final int SEMICOLON = 3;
        private static final int WRONG = 4;

        // The kinds of lines: those of a theatre, then those of a book, then that of a dark.
        private static final int PALM_LINE = 0;
        private static final int ACTOR_LINE = 1;
        private static final int USURER_LINE = 2;
        private static final int RATE_LINE = 3;
        private static final int CHEST_LINE = 4;
        private static final int BORROW_LINE = 5;
        private static final int DEED_LINES = 6;
        private static final int HEARD_LINE = 13;
        private static final int[] FIRST_LINE = {0, 6, 13, 14};
        private static final int[] NUMBERS = {2, 2, 2, 1, 1, 1, 3, 3, 3, 3, 2, 0, 0, 1};
        private static final int[] LEAST = {
            0, 1, 0, 0, 0, 0, 0, 0, 0, 0, 0, 0, 0, 0, 0, 0, 0, 0,
            0, 0, 1, 0, 0, 1, 0, 0, 1, 0, 0, 1, 0, 1, 0, 0, 0, 0, 0, 0, 0,
            0, 0, 0};
        private static final int[] HIGHEST = {
            99, 2, 0, 40, 400, 0, 30, 30, 0, 50, 0, 0, 999, 0, 0, 20, 0, 0,
            4, 5, 99, 4, 4, 99, 4, 4, 99, 5, 4, 99, 5, 99, 0, 0, 0, 0, 0, 0, 0,
            10, 0, 0};

        private final Theatre theatre = new Theatre();
        private final Book book = new Book();
        private final Dark dark = new Dark();
        private final int[] numbers = new int[3];
        private int fault;
        private int place;
        private int token;
        private int from;
        private int to;
        private int value;

        void read(byte[] tape, int length, int sort) {
            theatre.clear();
            book.deeds = 0;
            dark.minutes = 0;
            fault = 0;
            place = NONE;
            to = 0;
            for (int line = 0; line <= TAPE; line++) {
                step(tape, length);
                if (token == AT_END || !readLine(tape, length, sort)) {
                    return;
                }
            }
        }

        private boolean readLine(byte[] tape, int length, int sort) {
            int kind = token == WORD ? kindOf(tape, sort) : NONE;
            if (kind == NONE) {
                return refuse();
            }
            if (isFull(kind)) {
                note(3);
            }
            Arrays.fill(numbers, NONE);
            for (int i = 0; i < NUMBERS[kind] && i < 3; i++) {
                step(tape, length);
                if (token != NUMBER) {
                    return refuse();
                }
                numbers[i] = value;
                if (cannotBe(kind, i)) {
                    note(2);
                }
            }
            step(tape, length);
            if (token != SEMICOLON) {
                return refuse();
            }
            keepLine(kind);
            return true;
        }

        /** A text that does not go on outdoes every other fault, wherever that was. */
        private boolean refuse() {
            fault = 1;
            place = from;
            return false;
        }

        /** Tokens come by their places, so the first that is noted is the first by place. */
        private void note(int found) {
            if (fault == 0) {
                fault = found;
                place = from;
            }
        }

        private void step(byte[] tape, int length) {
            int at = to;
            while (at < length && (tape[at] == 32 || tape[at] == 10)) {
                at++;
            }
            from = at;
            if (at >= length) {
                token = AT_END;
            } else if (isLetter(tape[at])) {
                token = WORD;
                while (at < length && isLetter(tape[at])) {
                    at++;
                }
            } else if (isDigit(tape[at])) {
                value = 0;
                while (at < length && isDigit(tape[at])) {
                    value = Math.min(9999, value * 10 + tape[at] - '0');
                    at++;
                }
                token = at - from <= 3 ? NUMBER : WRONG;
            } else {
                token = tape[at] == ';' ? SEMICOLON : WRONG;
                at++;
            }
            to = at;
        }

        private static boolean isLetter(byte sign) {
            return sign >= 'a' && sign <= 'z';
        }

        private static boolean isDigit(byte sign) {
            return sign >= '0' && sign <= '9';
        }

        private int kindOf(byte[] tape, int sort) {
            if (sort < 0 || sort + 1 >= FIRST_LINE.length) {
                return NONE;
            }
            for (int kind = FIRST_LINE[sort]; kind < FIRST_LINE[sort + 1]; kind++) {
                if (spells(tape, wordOf(kind))) {
                    return kind;
                }
            }
            return NONE;
        }

        private boolean spells(byte[] tape, String word) {
            if (to - from != word.length()) {
                return false;
            }
            for (int i = 0; i < word.length(); i++) {
                if (tape[from + i] != word.charAt(i)) {
                    return false;
                }
            }
            return true;
        }

        private static String wordOf(int kind) {
            switch (kind) {
                case PALM_LINE: return "palm";
                case ACTOR_LINE: return "actor";
                case USURER_LINE: return "usurer";
                case RATE_LINE: return "rate";
                case CHEST_LINE: return "chest";
                case BORROW_LINE: return "borrow";
                case DEED_LINES + CLAP: return "clap";
                case DEED_LINES + LEND: return "lend";
                case DEED_LINES + REPAY: return "repay";
                case DEED_LINES + HUSH: return "hush";
                case DEED_LINES + STORM: return "storm";
                case DEED_LINES + ENCORE: return "encore";
                case DEED_LINES + NIGHT: return "night";
                default: return "heard";
            }
        }

        private boolean isFull(int kind) {
            switch (kind) {
                case PALM_LINE: return theatre.palms >= PALMS;
                case ACTOR_LINE: return theatre.actors >= ACTORS;
                case USURER_LINE: return theatre.usurers >= USURERS;
                case RATE_LINE:
                case CHEST_LINE:
                case BORROW_LINE: return false;
                case HEARD_LINE: return dark.minutes >= MINUTES;
                default: return book.deeds >= DEEDS;
            }
        }

        private boolean cannotBe(int kind, int i) {
            int told = numbers[i];
            if (told < LEAST[kind * 3 + i] || told > HIGHEST[kind * 3 + i]) {
                return true;
            }
            if (i != 1) {
                return false;
            }
            if (kind == USURER_LINE) {
                return told > numbers[0];
            }
            boolean exchange = kind == DEED_LINES + LEND || kind == DEED_LINES + REPAY;
            return exchange && told == numbers[0];
        }

        private void keepLine(int kind) {
            switch (kind) {
                case PALM_LINE: theatre.addPalm(numbers[0], numbers[1]); break;
                case ACTOR_LINE: theatre.addActor(numbers[0], numbers[1]); break;
                case USURER_LINE: theatre.addUsurer(numbers[0], numbers[1]); break;
                case RATE_LINE: theatre.rate = numbers[0]; break;
                case CHEST_LINE: theatre.chest = numbers[0]; break;
                case BORROW_LINE: theatre.borrowers = numbers[0]; break;
                case HEARD_LINE: dark.addMinute(numbers[0]); break;
                default: book.addDeed(kind - DEED_LINES, numbers[0], numbers[1], numbers[2]); break;
            }
        }
    }

    /** A state of a theatre: each call plays it anew, so that it may be spoilt by what is asked of it. */
    private static final class Evening {
        // Far above all that can be eaten in 99 nights, and above all that 30 deeds can save.
        private static final long RICHES = 1000000000L;

        private Theatre house = new Theatre();
        private final int[] left = new int[PALMS];
        private final int[] owes = new int[PALMS * PALMS];
        private final int[] got = new int[PALMS * ACTORS];
        private final int[] saved = new int[ACTORS];
        private final int[] starved = new int[ACTORS];
        private final int[] storms = new int[ACTORS];
        private final int[] drawnFrom = new int[ACTORS];
        private int chest;
        private int encores;
        private int nights;
        private int claps;
        private int hushed;
        private int echo;

        private void begin(Theatre theatre) {
            house = theatre;
            System.arraycopy(theatre.claps, 0, left, 0, PALMS);
            System.arraycopy(theatre.saved, 0, saved, 0, ACTORS);
            Arrays.fill(owes, 0);
            Arrays.fill(got, 0);
            Arrays.fill(starved, NONE);
            Arrays.fill(storms, 0);
            chest = theatre.chest;
            encores = 0;
            nights = 0;
            claps = 0;
            hushed = 0;
            echo = NONE;
        }

        /** Plays the first n deeds, n being no more than there are; false if one of them can't be. */
        boolean playFirst(Theatre theatre, Book book, int n) {
            begin(theatre);
            for (int k = 0; k < n; k++) {
                if (!canBe(book, k)) {
                    return false;
                }
                act(book, k);
            }
            return true;
        }

        /** Plays up to the first deed that can't be, and answers which that is. */
        int playAll(Theatre theatre, Book book) {
            begin(theatre);
            for (int k = 0; k < book.deeds; k++) {
                if (!canBe(book, k)) {
                    return k;
                }
                act(book, k);
            }
            return book.deeds;
        }

        void playWithout(Theatre theatre, Book book, int stop, int palm) {
            begin(theatre);
            for (int k = 0; k < stop; k++) {
                if (!book.isOf(k, palm) && canBe(book, k)) {
                    act(book, k);
                }
            }
        }

        void playDrawn(Theatre theatre, int seed, int evenings) {
            begin(theatre);
            int x = seed;
            for (int e = 0; e < evenings; e++) {
                int live = 0;
                for (int a = 0; a < house.actors; a++) {
                    if (lives(a)) {
                        drawnFrom[live] = a;
                        live++;
                    }
                }
                for (int p = 0; p < house.palms && live > 0; p++) {
                    for (int i = 0; i < house.claps[p]; i++) {
                        x = x * 1103515245 + 12345;
                        give(drawnFrom[(x >>> 16) % live], house.hands[p]);
                    }
                }
                passNight();
            }
        }

        boolean hasPalm(int p) {
            return p >= 0 && p < house.palms;
        }

        boolean hasActor(int a) {
            return a >= 0 && a < house.actors;
        }

        boolean lives(int a) {
            return hasActor(a) && starved[a] == NONE;
        }

        boolean isHushed(int p) {
            return (hushed >> p & 1) != 0;
        }

        private boolean canBe(Book book, int k) {
            int first = book.part(k, 1);
            int second = book.part(k, 2);
            int many = book.part(k, 3);
            switch (book.part(k, 0)) {
                case CLAP: return canGive(first, many) && lives(second);
                case LEND: return canGive(first, many) && hasPalm(second);
                case REPAY: return canGive(first, many) && hasPalm(second) && owes[first * PALMS + second] >= many;
                case HUSH: return lives(first) && hasPalm(second) && saved[first] >= many && chest >= many;
                case STORM: return lives(first);
                default: return true;
            }
        }

        private boolean canGive(int p, int many) {
            return hasPalm(p) && !isHushed(p) && left[p] >= many;
        }

        /** Does deed k, which can be. */
        private void act(Book book, int k) {
            int kind = book.part(k, 0);
            int first = book.part(k, 1);
            int second = book.part(k, 2);
            int many = book.part(k, 3);
            switch (kind) {
                case CLAP: clapFor(first, second, many); break;
                case LEND: move(first, second, many); owes[second * PALMS + first] += many; break;
                case REPAY: move(first, second, many); owes[first * PALMS + second] -= many; break;
                case HUSH: give(first, -many); hushed |= 1 << second; break;
                case STORM: give(first, 2 * second); storms[first] += 2 * second; break;
                case ENCORE: encores++; break;
                default: passNight(); break;
            }
            echo = kind == CLAP ? second : NONE;
        }

        private void clapFor(int p, int a, int many) {
            int halves = many * house.hands[p];
            if (echo == a) {
                halves *= 2;
            }
            left[p] -= many;
            claps += many;
            got[p * ACTORS + a] += halves;
            give(a, halves);
        }

        private void move(int p, int q, int many) {
            left[p] -= many;
            left[q] += many;
        }

        private void give(int a, int halves) {
            saved[a] += halves;
            chest += halves;
        }

        private int priceBehind(int a, int more) {
            return house.hunger[a] + house.hunger[a] * (encores + more) / 10;
        }

        int price(int a) {
            return priceBehind(a, 0);
        }

        int need(int a) {
            return lives(a) ? Math.max(0, price(a) - saved[a]) : 0;
        }

        private int grown(int sum) {
            long more = sum + (long) sum * house.rate / 100;
            return (int) Math.min(RICHES, more);
        }

        private void passNight() {
            for (int a = 0; a < house.actors; a++) {
                if (lives(a)) {
                    dine(a);
                }
            }
            for (int i = 0; i < PALMS * PALMS; i++) {
                owes[i] = grown(owes[i]);
            }
            System.arraycopy(house.claps, 0, left, 0, PALMS);
            hushed = 0;
            nights++;
        }

        /** Nobody's savings are another's, so they may grow before the next one eats. */
        private void dine(int a) {
            int eaten = price(a);
            if (saved[a] < eaten || chest < eaten) {
                starved[a] = nights;
                return;
            }
            give(a, -eaten);
            saved[a] = grown(saved[a]);
        }

        int living() {
            int bits = 0;
            for (int a = 0; a < house.actors; a++) {
                if (lives(a)) {
                    bits |= 1 << a;
                }
            }
            return bits;
        }

        int allLeft() {
            int sum = 0;
            for (int p = 0; p < house.palms; p++) {
                sum += left[p];
            }
            return sum;
        }

        int allNeeds() {
            int sum = 0;
            for (int a = 0; a < house.actors; a++) {
                sum += need(a);
            }
            return sum;
        }

        private int allSaved() {
            int sum = 0;
            for (int a = 0; a < house.actors; a++) {
                if (lives(a)) {
                    sum += saved[a];
                }
            }
            return sum;
        }

        int tell(int what) {
            switch (what) {
                case 0: return chest;
                case 1: return encores;
                case 2: return nights;
                case 3: return living();
                case 4: return hushed;
                case 5: return allSaved();
                case 6: return claps;
                default: return REFUSED;
            }
        }

        int tellPalm(int p, int what) {
            if (what == 0) {
                return left[p];
            }
            if (what >= 10 && hasPalm(what - 10) && what - 10 != p) {
                return owes[p * PALMS + what - 10];
            }
            if (what >= 20 && hasActor(what - 20)) {
                return got[p * ACTORS + what - 20];
            }
            return REFUSED;
        }

        int tellActor(int a, int what) {
            switch (what) {
                case 0: return saved[a];
                case 1: return lives(a) ? 1 : 0;
                case 2: return lives(a) ? price(a) : 0;
                case 3: return need(a);
                case 4: return starved[a];
                case 5: return friday(a);
                case 6: return star(a);
                case 7: return storms[a];
                default: return REFUSED;
            }
        }

        private int friday(int a) {
            if (!lives(a)) {
                return 0;
            }
            for (int n = 0; n < MOST; n++) {
                passNight();
                if (!lives(a)) {
                    return n;
                }
            }
            return MOST;
        }

        private int star(int a) {
            if (!lives(a)) {
                return 0;
            }
            int purse = saved[a];
            int eaten = price(a);
            for (int n = 0; n < MOST; n++) {
                if (purse < eaten) {
                    return n;
                }
                purse = grown(purse - eaten);
            }
            return MOST;
        }

        /** The chest is never fuller than for the first at it, so who starves as the first one starves in every order. */
        int doomed() {
            int bits = 0;
            for (int a = 0; a < house.actors; a++) {
                if (lives(a) && (saved[a] < price(a) || chest < price(a))) {
                    bits |= 1 << a;
                }
            }
            return bits;
        }

        /** Any set of actors whom the chest can feed may go ahead of the one who then finds too little. */
        int danger() {
            int bits = doomed();
            int able = living() & ~bits;
            for (int ahead = 0; ahead < 1 << ACTORS; ahead++) {
                int rest = chest - pricesOf(ahead);
                if ((ahead & ~able) == 0 && rest >= 0) {
                    bits |= able & ~ahead & dearerThan(rest);
                }
            }
            return bits;
        }

        private int pricesOf(int bits) {
            int sum = 0;
            for (int a = 0; a < house.actors; a++) {
                if ((bits >> a & 1) != 0) {
                    sum += price(a);
                }
            }
            return sum;
        }

        private int dearerThan(int rest) {
            int bits = 0;
            for (int a = 0; a < house.actors; a++) {
                if (price(a) > rest) {
                    bits |= 1 << a;
                }
            }
            return bits;
        }

        int loan() {
            int debtor = NONE;
            int most = 0;
            for (int p = 0; p < house.palms; p++) {
                int sum = 0;
                for (int q = 0; q < house.palms; q++) {
                    sum += owes[p * PALMS + q];
                }
                if (sum > most) {
                    debtor = p;
                    most = sum;
                }
            }
            return debtor;
        }

        int idol() {
            int idol = NONE;
            int most = 0;
            for (int a = 0; a < house.actors; a++) {
                int sum = 0;
                for (int p = 0; p < house.palms; p++) {
                    sum += got[p * ACTORS + a];
                }
                if (sum > most) {
                    idol = a;
                    most = sum;
                }
            }
            return idol;
        }

        /** More claps may feed one ahead of him who empties the chest, so each number is tried. */
        int tip(int a) {
            if (!lives(a)) {
                return NONE;
            }
            for (int many = 0; many <= MOST; many++) {
                if (eatsWith(a, 2 * many)) {
                    return many;
                }
            }
            return NONE;
        }

        private boolean eatsWith(int a, int halves) {
            int rest = chest + halves;
            for (int b = 0; b < a; b++) {
                if (lives(b) && saved[b] >= price(b) && rest >= price(b)) {
                    rest -= price(b);
                }
            }
            return saved[a] + halves >= price(a) && rest >= price(a);
        }

        int dear(int a) {
            if (!lives(a)) {
                return 0;
            }
            for (int more = 0; more < MOST; more++) {
                if (priceBehind(a, more) > saved[a]) {
                    return more;
                }
            }
            return MOST;
        }
    }

    /** Whom to clap so that most eat with fewest claps. */
    private static final class Feast {
        private int who;
        private int two;
        private int one;

        void lay(Evening evening) {
            int twoHanded = 0;
            int oneHanded = 0;
            for (int p = 0; p < evening.house.palms; p++) {
                if (!evening.isHushed(p)) {
                    if (evening.house.hands[p] == 2) {
                        twoHanded += evening.left[p];
                    } else {
                        oneHanded += evening.left[p];
                    }
                }
            }
            who = 0;
            two = 0;
            one = 0;
            int living = evening.living();
            for (int bits = 1; bits < 1 << ACTORS; bits++) {
                if ((bits & ~living) == 0) {
                    tryGuests(evening, bits, twoHanded, oneHanded);
                }
            }
        }

        /** Two hands never clap less well than one: one hand is put only where a half is lacking, or two hands are. */
        private void tryGuests(Evening evening, int bits, int twoHanded, int oneHanded) {
            int pairs = 0;
            int odd = 0;
            for (int a = 0; a < ACTORS; a++) {
                if ((bits >> a & 1) != 0) {
                    pairs += evening.need(a) / 2;
                    odd += evening.need(a) % 2;
                }
            }
            int ones = twoHanded < pairs ? 2 * (pairs - twoHanded) + odd : Math.min(odd, oneHanded);
            int twos = twoHanded < pairs ? twoHanded : pairs + odd - ones;
            if (ones <= oneHanded && twos <= twoHanded && isBetter(bits, twos, ones)) {
                who = bits;
                two = twos;
                one = ones;
            }
        }

        private boolean isBetter(int bits, int twos, int ones) {
            int more = Integer.bitCount(bits) - Integer.bitCount(who);
            if (more != 0) {
                return more > 0;
            }
            int fewer = two + one - twos - ones;
            return fewer != 0 ? fewer > 0 : twos < two;
        }

        int tell(int what) {
            switch (what) {
                case 0: return Integer.bitCount(who);
                case 1: return who;
                case 2: return two;
                default: return one;
            }
        }
    }

    /** What usurers ask, round by round. */
    private static final class Rounds {
        private int usurers;
        private int borrowers;
        private int period;
        private final int[] asks = new int[USURERS];
        private final int[] floors = new int[USURERS];
        private final int[] gains = new int[USURERS];
        private final int[] seen = new int[ROUNDS + 1];

        void begin(Theatre house) {
            usurers = house.usurers;
            borrowers = house.borrowers;
            System.arraycopy(house.asks, 0, asks, 0, USURERS);
            System.arraycopy(house.floors, 0, floors, 0, USURERS);
            Arrays.fill(gains, 0);
        }

        void goRound() {
            int chosen = borrowers > 0 ? cheapest() : NONE;
            for (int u = 0; u < usurers; u++) {
                if (u == chosen) {
                    gains[u] += borrowers * asks[u];
                    asks[u] = Math.min(30, asks[u] + 1);
                } else {
                    asks[u] = Math.max(floors[u], asks[u] - 1);
                }
            }
        }

        private int cheapest() {
            int least = 0;
            for (int u = 1; u < usurers; u++) {
                if (asks[u] < asks[least]) {
                    least = u;
                }
            }
            return least;
        }

        /** The first round behind which all asks are as before, or NONE; period tells since when. */
        int findRepeat(Theatre house) {
            begin(house);
            seen[0] = allAsks();
            for (int round = 1; round <= ROUNDS; round++) {
                goRound();
                seen[round] = allAsks();
                for (int past = round - 1; past >= 0; past--) {
                    if (seen[past] == seen[round]) {
                        period = round - past;
                        return round;
                    }
                }
            }
            return NONE;
        }

        private int allAsks() {
            int packed = 0;
            for (int u = 0; u < usurers; u++) {
                packed = packed * 32 + asks[u];
            }
            return packed;
        }
    }

    /**
     * Whose claps were heard in the dark. The minutes are taken in two halves of at most three, so that how often
     * each palm clapped in a half fits in two bits, and all palms in a row of 1024.
     */
    private static final class Hearing {
        private static final int HALF = 3;
        private static final int ROW = 1024;

        private Theatre house = new Theatre();
        private Dark dark = new Dark();
        private final int[] early = new int[ROW];
        private final int[] late = new int[ROW];
        private final int[] halvesOf = new int[1 << PALMS];
        private final int[] onceOf = new int[1 << PALMS];
        private int sets;
        private int any;
        private int all;

        void listen(Theatre theatre, Dark night) {
            house = theatre;
            dark = night;
            sets = 1;
            halvesOf[0] = 0;
            onceOf[0] = 0;
            for (int p = 0; p < theatre.palms; p++) {
                for (int set = 0; set < sets; set++) {
                    halvesOf[set + sets] = halvesOf[set] + theatre.hands[p];
                    onceOf[set + sets] = onceOf[set] + (1 << 2 * p);
                }
                sets *= 2;
            }
        }

        /** In how many ways, if in the fixed minute (or NONE) just that set of palms clapped. */
        long tally(int fixed, int set) {
            fill(early, 0, Math.min(HALF, dark.minutes), fixed, set);
            fill(late, HALF, dark.minutes, fixed, set);
            addUp(late);
            long sum = 0;
            for (int often = 0; often < ROW; often++) {
                int room = early[often] == 0 ? NONE : roomBehind(often);
                if (room != NONE) {
                    sum += (long) early[often] * late[room];
                }
            }
            return sum;
        }

        private void fill(int[] row, int from, int to, int fixed, int set) {
            Arrays.fill(row, 0);
            row[0] = 1;
            for (int k = from; k < to; k++) {
                for (int often = ROW - 1; often >= 0; often--) {
                    if (row[often] != 0) {
                        spread(row, often, dark.halves[k], k == fixed ? set : NONE);
                    }
                }
            }
        }

        /** The row may be spread in place from its end on: who clap at all are never put below where they were. */
        private void spread(int[] row, int often, int heard, int only) {
            int before = row[often];
            row[often] = 0;
            for (int set = 0; set < sets; set++) {
                int now = often + onceOf[set];
                if (halvesOf[set] == heard && (only == NONE || only == set) && now < ROW) {
                    row[now] += before;
                }
            }
        }

        /** Makes each place of the row the sum of all in which no palm clapped more often. */
        private static void addUp(int[] row) {
            for (int p = 0; p < PALMS; p++) {
                for (int often = 0; often < ROW; often++) {
                    if ((often >> 2 * p & 3) != 0) {
                        row[often] += row[often - (1 << 2 * p)];
                    }
                }
            }
        }

        private int roomBehind(int often) {
            int room = 0;
            for (int p = 0; p < house.palms; p++) {
                int rest = house.claps[p] - (often >> 2 * p & 3);
                if (rest < 0) {
                    return NONE;
                }
                room += Math.min(HALF, rest) << 2 * p;
            }
            return room;
        }

        /** Finds who clapped in any of the ways in minute k, and who in all: NONE, being all bits, without ways. */
        void compareMinute(int k) {
            any = 0;
            all = NONE;
            for (int set = 0; set < sets; set++) {
                if (halvesOf[set] == dark.halves[k] && tally(k, set) > 0) {
                    any |= set;
                    all &= set;
                }
            }
        }
    }
}
