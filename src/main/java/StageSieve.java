/**
 * Who comes up on the stage: a house of people by sorts, asks, rows of steps that keep those who do
 * or those who do not, and what can be told of who is left. The document is ../shared/DOC.md.
 *
 * All rows are made in the constructors: no call makes an object.
 */
public final class StageSieve {
    public static final int BAD = -1, NO = -2, FULL = -3, NONE = -4;

    private static final int STAGE = 0, PLAIN = 1, AS_IF = 2, MODES = 4;
    private static final int SORTS = 6, ASKS = 6, PEOPLE = 120, STEPS = 8, NIGHTS = 3, KEPT = 2, BYTES = 400;
    private static final int COUNTED = 12, LONGEST_CHOICE = 3, MOST_MINUTES = 90, DATES = 10000;
    private static final int MILLION = 1000000;

    private final Text text = new Text();
    private final House house = new House();
    private final Course course = new Course();
    private final House draft = new House();
    private final Row draftRow = new Row();
    private final Reader reader = new Reader(draft, draftRow);
    private final Course firstKept = new Course();
    private final Course secondKept = new Course();
    private final Sieve sieve = new Sieve(house);
    private final Chooser chooser = new Chooser(house);
    private final Fraction fraction = new Fraction();
    private final Feelings feelings = new Feelings(house, fraction);
    private final Night evening = new Night(house);
    private int kept;

    public StageSieve() {
        house.addSort(10, 5, 5, 0);
        house.addAsk(5, 2, 5, 5);
    }

    // ---- houses

    public int write(int n, long v) {
        if (!within(n, 1, 8)) {
            return BAD;
        }
        if (text.size + n > BYTES) {
            return FULL;
        }
        for (int place = n - 1; place >= 0; place--) {
            text.add((byte) (v >>> (8 * place)));
        }
        return text.size;
    }

    public int wipe() {
        int was = text.size;
        text.size = 0;
        return was;
    }

    public int fault() {
        return reader.read(text);
    }

    public int lay() {
        if (reader.read(text) != NONE || draft.sorts == 0 || draft.asks == 0) {
            return NO;
        }
        house.copy(draft);
        course.row.copy(draftRow);
        course.told.size = 0;
        kept = 0;
        chooser.renew();
        return house.all;
    }

    public int does(int sort, int ask, int mode, int what) {
        if (!house.hasSort(sort) || !house.hasAsk(ask) || !within(mode, 0, MODES - 1) || !within(what, 0, 2)) {
            return BAD;
        }
        if (what == 0) {
            return house.feeling(sort, ask, mode);
        }
        return what == 1 ? house.playing(sort, ask, mode) : house.doing(sort, ask, mode);
    }

    public int step(int ask, int keep) {
        if (!house.hasAsk(ask) || !within(keep, 0, 1)) {
            return BAD;
        }
        return course.row.add(ask, keep) ? course.row.size : FULL;
    }

    public int noRow() {
        int had = course.row.size;
        course.row.size = 0;
        return had;
    }

    // ---- who is left

    public int left(int sort) {
        if (sort != -1 && !house.hasSort(sort)) {
            return BAD;
        }
        sieve.pass(course.row);
        return (int) (sort == -1 ? sieve.together() : sieve.remaining(sort));
    }

    public int share(int sort) {
        if (!house.hasSort(sort)) {
            return BAD;
        }
        sieve.pass(course.row);
        long together = sieve.together();
        return together == 0 ? NONE : (int) (100000 * sieve.remaining(sort) / together);
    }

    public int bent(int what) {
        if (!within(what, 0, 1)) {
            return BAD;
        }
        if (what == 0) {
            return house.meanBent();
        }
        sieve.pass(course.row);
        return sieve.meanBent();
    }

    public int odds(int c) {
        if (!within(c, 0, COUNTED)) {
            return BAD;
        }
        sieve.pass(course.row);
        return sieve.chance(c);
    }

    public int best(int n, int minutes, int c, int i) {
        if (!within(n, 1, LONGEST_CHOICE) || !within(minutes, 0, MOST_MINUTES)
                || !within(c, 0, COUNTED) || !within(i, -1, n - 1)) {
            return BAD;
        }
        chooser.choose(n, minutes, c);
        if (chooser.chance == NONE || i == -1) {
            return chooser.chance;
        }
        return chooser.number(i);
    }

    // ---- felt or played

    public int felt(int ask, int mode, int part) {
        if (!house.hasAsk(ask) || !within(mode, 0, MODES - 1) || !within(part, 0, 1)) {
            return BAD;
        }
        feelings.weighFelt(ask, mode);
        return (int) fraction.part(part);
    }

    public int words(int ask) {
        return house.hasAsk(ask) ? feelings.added(ask) + 1000 : BAD;
    }

    public int harm(int ask, int what) {
        if (!house.hasAsk(ask) || !within(what, 0, 1)) {
            return BAD;
        }
        int sort = feelings.mostHarmed(ask);
        return what == 0 ? feelings.gain(sort, ask) + 100 : sort;
    }

    public long people(int part) {
        if (!within(part, 0, 1)) {
            return BAD;
        }
        feelings.weighPeople(NONE);
        return fraction.part(part);
    }

    public int tells() {
        return house.asks < 2 ? NONE : feelings.mostTelling();
    }

    public int relief(int sort, int ask, int what) {
        if (!house.hasSort(sort) || !house.hasAsk(ask) || !within(what, 0, 1)) {
            return BAD;
        }
        return what == 0 ? feelings.eased(sort, ask) : house.easedBySugar();
    }

    public int worth(int ask, int q) {
        if (!house.hasAsk(ask) || !within(q, 0, 99)) {
            return BAD;
        }
        int bits = 0;
        for (int sort = 0; sort < house.sorts; sort++) {
            if (feelings.eased(sort, ask) - house.easedBySugar() >= q) {
                bits |= 1 << sort;
            }
        }
        return bits;
    }

    // ---- a man of his

    public int tell(int sort, int ask, int n, int d) {
        if (!house.hasSort(sort) || !house.hasAsk(ask) || !within(n, 1, 4) || !within(d, 0, n)) {
            return BAD;
        }
        return course.told.add(sort, ask, n, d) ? course.told.size : FULL;
    }

    public int forget() {
        int were = course.told.size;
        course.told.size = 0;
        return were;
    }

    public long man(int part) {
        if (!within(part, 0, 1)) {
            return BAD;
        }
        long with = house.man * course.told.withHim(house);
        long without = (10 - house.man) * course.told.withoutHim(house);
        fraction.set(with, with + without);
        return fraction.part(part);
    }

    // ---- nights

    public int night(int z, int what) {
        if (!within(z, 0, DATES - 1) || !within(what, 0, 2)) {
            return BAD;
        }
        evening.play(course.row, z);
        if (what == 0) {
            return evening.present;
        }
        return what == 1 ? evening.players() : evening.stepsToSix;
    }

    public int one(int z, int i) {
        if (!within(z, 0, DATES - 1) || i < 0) {
            return BAD;
        }
        evening.play(course.row, z);
        return evening.person(i);
    }

    public int nights(int z, int c) {
        if (!within(z, 0, DATES - 1) || !within(c, 0, PEOPLE)) {
            return BAD;
        }
        int such = 0;
        for (int later = 0; later < 10; later++) {
            evening.play(course.row, (z + later) % DATES);
            if (evening.present == c) {
                such++;
            }
        }
        return such;
    }

    public int keep() {
        if (kept == KEPT) {
            return FULL;
        }
        keptAt(kept).copy(course);
        kept++;
        return kept;
    }

    public int back() {
        if (kept == 0) {
            return NO;
        }
        kept--;
        course.copy(keptAt(kept));
        return kept;
    }

    public int count(int what) {
        switch (what) {
            case 0: return house.sorts;
            case 1: return house.asks;
            case 2: return house.all;
            case 3: return course.row.size;
            case 4: return text.size;
            case 5: return course.told.size;
            case 6: return kept;
            default: return BAD;
        }
    }

    private Course keptAt(int place) {
        return place == 0 ? firstKept : secondKept;
    }

    // ---- rows of numbers, looked at before they are used

    private static boolean within(int number, int least, int most) {
        return number >= least && number <= most;
    }

    private static int at(int[] row, int place) {
        return place >= 0 && place < row.length ? row[place] : 0;
    }

    private static void put(int[] row, int place, int number) {
        if (place >= 0 && place < row.length) {
            row[place] = number;
        }
    }

    private static void copyRow(int[] to, int[] from) {
        for (int place = 0; place < to.length; place++) {
            to[place] = at(from, place);
        }
    }

    /** THE TEXT. */
    private static final class Text {
        private final byte[] bytes = new byte[BYTES];
        private int size;

        void add(byte b) {
            if (size >= 0 && size < bytes.length) {
                bytes[size] = b;
                size++;
            }
        }

        /** The byte at a place, 0 behind the end: no item has a 0. */
        int byteAt(int place) {
            return place >= 0 && place < size && place < bytes.length ? bytes[place] : 0;
        }
    }

    /** The SORTS and ASKS, the odds of a man of his, the pain: with what a SORT feels, plays and does. */
    private static final class House {
        private final int[] sizes = new int[SORTS];
        private final int[] bents = new int[SORTS];
        private final int[] wishes = new int[SORTS];
        private final int[] fears = new int[SORTS];
        private final int[] hards = new int[ASKS];
        // what the words of an ask add, and how hard it is to play
        private final int[] helps = new int[ASKS];
        private final int[] poses = new int[ASKS];
        private final int[] minutes = new int[ASKS];
        private int sorts, asks, all, man, pain, sugar;

        House() {
            clear();
        }

        void clear() {
            sorts = 0;
            asks = 0;
            all = 0;
            man = 1;
            setPain(50, 2);
        }

        void copy(House other) {
            copyRow(sizes, other.sizes);
            copyRow(bents, other.bents);
            copyRow(wishes, other.wishes);
            copyRow(fears, other.fears);
            copyRow(hards, other.hards);
            copyRow(helps, other.helps);
            copyRow(poses, other.poses);
            copyRow(minutes, other.minutes);
            sorts = other.sorts;
            asks = other.asks;
            all = other.all;
            man = other.man;
            setPain(other.pain, other.sugar);
        }

        boolean addSort(int size, int bent, int wish, int fear) {
            if (sorts == SORTS || !within(size, 1, 60) || all + size > PEOPLE
                    || !within(bent, 0, 10) || !within(wish, 0, 10) || !within(fear, 0, 10)) {
                return false;
            }
            put(sizes, sorts, size);
            put(bents, sorts, bent);
            put(wishes, sorts, wish);
            put(fears, sorts, fear);
            sorts++;
            all += size;
            return true;
        }

        boolean addAsk(int hard, int help, int pose, int length) {
            if (asks == ASKS || !within(length, 1, 30)
                    || !within(hard, 0, 10) || !within(help, 0, 10) || !within(pose, 0, 10)) {
                return false;
            }
            put(hards, asks, hard);
            put(helps, asks, help);
            put(poses, asks, pose);
            put(minutes, asks, length);
            asks++;
            return true;
        }

        boolean setMan(int tenths) {
            if (!within(tenths, 0, 10)) {
                return false;
            }
            man = tenths;
            return true;
        }

        boolean setPain(int much, int bySugar) {
            if (!within(much, 0, 99) || !within(bySugar, 0, 10)) {
                return false;
            }
            pain = much;
            sugar = bySugar;
            return true;
        }

        boolean hasSort(int sort) {
            return sort >= 0 && sort < sorts;
        }

        boolean hasAsk(int ask) {
            return ask >= 0 && ask < asks;
        }

        int size(int sort) {
            return at(sizes, sort);
        }

        int bentOf(int sort) {
            return at(bents, sort);
        }

        int length(int ask) {
            return at(minutes, ask);
        }

        int meanBent() {
            int sum = 0;
            for (int sort = 0; sort < sorts; sort++) {
                sum += size(sort) * bentOf(sort);
            }
            return all == 0 ? NONE : 1000 * sum / all;
        }

        int easedBySugar() {
            return pain * sugar / 10;
        }

        int feeling(int sort, int ask, int mode) {
            if (mode == AS_IF) {
                return 0;
            }
            int help = mode == PLAIN ? 0 : at(helps, ask);
            return tenths(at(bents, sort) + help - at(hards, ask));
        }

        int playing(int sort, int ask, int mode) {
            int pose = at(poses, ask);
            switch (mode) {
                case STAGE: return tenths(at(wishes, sort) + at(fears, sort) - pose);
                case PLAIN: return tenths(at(wishes, sort) - pose);
                case AS_IF: return tenths(10 - pose);
                default: return 0;
            }
        }

        int doing(int sort, int ask, int mode) {
            return doing(feeling(sort, ask, mode), playing(sort, ask, mode));
        }

        static int doing(int felt, int play) {
            return 10 * felt + (10 - felt) * play;
        }

        static int tenths(int number) {
            if (number < 0) {
                return 0;
            }
            return number > 10 ? 10 : number;
        }
    }

    /** A row of STEPS. */
    private static final class Row {
        private final int[] asks = new int[STEPS];
        private final int[] keeps = new int[STEPS];
        private int size;

        boolean add(int ask, int keep) {
            if (size >= STEPS) {
                return false;
            }
            put(asks, size, ask);
            put(keeps, size, keep);
            size++;
            return true;
        }

        void copy(Row other) {
            copyRow(asks, other.asks);
            copyRow(keeps, other.keeps);
            size = other.size;
        }

        int ask(int step) {
            return at(asks, step);
        }

        /** Whether who does stays at a STEP, not who does not. */
        boolean keepsDoers(int step) {
            return at(keeps, step) == 0;
        }
    }

    /** The told nights: of n of a SORT d did an ASK. */
    private static final class Told {
        private final int[] sorts = new int[NIGHTS];
        private final int[] asks = new int[NIGHTS];
        private final int[] sizes = new int[NIGHTS];
        private final int[] doers = new int[NIGHTS];
        private int size;

        boolean add(int sort, int ask, int n, int d) {
            if (size >= NIGHTS) {
                return false;
            }
            put(sorts, size, sort);
            put(asks, size, ask);
            put(sizes, size, n);
            put(doers, size, d);
            size++;
            return true;
        }

        void copy(Told other) {
            copyRow(sorts, other.sorts);
            copyRow(asks, other.asks);
            copyRow(sizes, other.sizes);
            copyRow(doers, other.doers);
            size = other.size;
        }

        long withoutHim(House house) {
            long product = 1;
            for (int night = 0; night < size; night++) {
                product *= likely(doesTenths(house, night), at(sizes, night), at(doers, night));
            }
            return product;
        }

        long withHim(House house) {
            long product = 1;
            for (int night = 0; night < size; night++) {
                int d = at(doers, night);
                product *= d == 0 ? 0 : 10 * likely(doesTenths(house, night), at(sizes, night) - 1, d - 1);
            }
            return product;
        }

        private int doesTenths(House house, int night) {
            return house.doing(at(sorts, night), at(asks, night), STAGE) / 10;
        }

        /** How likely just d of n do, each with p tenths: in 10 to the n-th parts. */
        private static long likely(int p, int n, int d) {
            long product = 1;
            for (int i = 0; i < d; i++) {
                product = product * (n - i) / (i + 1);
            }
            for (int i = 0; i < n; i++) {
                product *= i < d ? p : 10 - p;
            }
            return product;
        }
    }

    /** What can be KEPT: a row and told nights. */
    private static final class Course {
        private final Row row = new Row();
        private final Told told = new Told();

        void copy(Course other) {
            row.copy(other.row);
            told.copy(other.told);
        }
    }

    /** Reads THE TEXT into a draft, so that a fault leaves the house as it is. */
    private static final class Reader {
        private final House draft;
        private final Row row;
        private final int[] numbers = new int[4];
        private int told;

        Reader(House draft, Row row) {
            this.draft = draft;
            this.row = row;
        }

        /** The place of the first item that is not so, or NONE. */
        int read(Text text) {
            draft.clear();
            row.size = 0;
            int place = 0;
            for (int items = 0; items <= BYTES && place < text.size; items++) {
                int behind = readNumbers(text, place + 1);
                if (behind == NONE || !take(text.byteAt(place))) {
                    return place;
                }
                place = behind;
            }
            return NONE;
        }

        /** Reads the numbers of an item from a place on: the place behind its end, or NONE. */
        private int readNumbers(Text text, int from) {
            told = 0;
            int number = 0;
            int figures = 0;
            for (int place = from; place < text.size; place++) {
                int b = text.byteAt(place);
                if (b >= '0' && b <= '9' && figures < 3) {
                    number = 10 * number + b - '0';
                    figures++;
                } else if ((b == ',' || b == ';') && figures > 0 && told < numbers.length) {
                    put(numbers, told, number);
                    told++;
                    number = 0;
                    figures = 0;
                    if (b == ';') {
                        return place + 1;
                    }
                } else {
                    return NONE;
                }
            }
            return NONE;
        }

        /** Whether the item of a letter with the numbers read is one, and is taken. */
        private boolean take(int letter) {
            int a = at(numbers, 0);
            int b = at(numbers, 1);
            switch (letter) {
                case 's': return told == 4 && draft.addSort(a, b, at(numbers, 2), at(numbers, 3));
                case 'a': return told == 4 && draft.addAsk(a, b, at(numbers, 2), at(numbers, 3));
                case 't': return told == 2 && draft.hasAsk(a) && within(b, 0, 1) && row.add(a, b);
                case 'c': return told == 1 && draft.setMan(a);
                case 'p': return told == 2 && draft.setPain(a, b);
                default: return false;
            }
        }
    }

    /** A fraction in lowest terms, none if its lower number is 0. */
    private static final class Fraction {
        private long above, below;

        void set(long a, long b) {
            long divisor = commonDivisor(a, b);
            above = divisor == 0 ? 0 : a / divisor;
            below = divisor == 0 ? 0 : b / divisor;
        }

        long part(int part) {
            if (below == 0) {
                return NONE;
            }
            return part == 0 ? above : below;
        }

        private static long commonDivisor(long a, long b) {
            long greater = a;
            long less = b;
            // two longs come to 0 in fewer than 100 turns
            for (int turn = 0; turn < 1000 && less != 0; turn++) {
                long rest = greater % less;
                greater = less;
                less = rest;
            }
            return greater;
        }
    }

    /** Who is left behind a row, in millionths, and how likely just so many are. */
    private static final class Sieve {
        private final House house;
        private final long[] remains = new long[SORTS];
        private final long[] ways = new long[COUNTED + 1];

        Sieve(House house) {
            this.house = house;
        }

        void pass(Row row) {
            for (int sort = 0; sort < remains.length && sort < house.sorts; sort++) {
                long rest = (long) house.size(sort) * MILLION;
                for (int step = 0; step < row.size; step++) {
                    int does = house.doing(sort, row.ask(step), STAGE);
                    rest = rest * (row.keepsDoers(step) ? does : 100 - does) / 100;
                }
                remains[sort] = rest;
            }
        }

        long remaining(int sort) {
            return sort >= 0 && sort < remains.length ? remains[sort] : 0;
        }

        long together() {
            long sum = 0;
            for (int sort = 0; sort < house.sorts; sort++) {
                sum += remaining(sort);
            }
            return sum;
        }

        int meanBent() {
            long sum = 0;
            for (int sort = 0; sort < house.sorts; sort++) {
                sum += remaining(sort) * house.bentOf(sort);
            }
            long together = together();
            return together == 0 ? NONE : (int) (1000 * sum / together);
        }

        int chance(int c) {
            for (int k = 0; k < ways.length; k++) {
                ways[k] = k == 0 ? MILLION : 0;
            }
            for (int sort = 0; sort < house.sorts; sort++) {
                int size = house.size(sort);
                long stays = size == 0 ? 0 : remaining(sort) / size;
                for (int person = 0; person < size && stays > 0; person++) {
                    partOne(stays, c);
                }
            }
            return c >= 0 && c < ways.length ? (int) ways[c] : 0;
        }

        /** Parts the million by one person; those with more than c never come down to c: left out. */
        private void partOne(long stays, int c) {
            for (int k = Math.min(c, ways.length - 1); k >= 0; k--) {
                long more = ways[k] * stays / MILLION;
                ways[k] -= more;
                if (k < c && k + 1 < ways.length) {
                    ways[k + 1] += more;
                }
            }
        }
    }

    /** The BEST ROW; asked for its steps one by one, so the last choice stays until a house is laid. */
    private static final class Chooser {
        private final House house;
        private final Sieve sieve;
        private final Row tried = new Row();
        private final Row found = new Row();
        private int length, minutes, wanted, chance;

        Chooser(House house) {
            this.house = house;
            sieve = new Sieve(house);
        }

        void renew() {
            length = 0;
        }

        int number(int step) {
            return 2 * found.ask(step) + (found.keepsDoers(step) ? 0 : 1);
        }

        void choose(int n, int m, int c) {
            if (length == n && minutes == m && wanted == c) {
                return;
            }
            length = n;
            minutes = m;
            wanted = c;
            chance = NONE;
            int rows = 1;
            for (int step = 0; step < n; step++) {
                rows *= 2 * house.asks;
            }
            for (int code = 0; code < rows; code++) {
                if (tryRow(code)) {
                    weigh();
                }
            }
        }

        /**
         * Whether the row with a number is to be weighed. A row whose steps go down is not: up to three
         * steps cut nothing of a million, so its odds are those of the same steps going up, tried before.
         */
        private boolean tryRow(int code) {
            int steps = 2 * house.asks;
            int unit = 1;
            for (int place = 1; place < length; place++) {
                unit *= steps;
            }
            tried.size = 0;
            int before = 0;
            int together = 0;
            for (int place = 0; place < length && steps > 0 && unit > 0; place++) {
                int step = code / unit % steps;
                if (step < before) {
                    return false;
                }
                tried.add(step / 2, step % 2);
                together += house.length(step / 2);
                before = step;
                unit /= steps;
            }
            return together <= minutes;
        }

        private void weigh() {
            sieve.pass(tried);
            int odds = sieve.chance(wanted);
            // a row is in place of those before it only if it is better: the first of equals stays
            if (odds > chance) {
                chance = odds;
                found.copy(tried);
            }
        }
    }

    /** Of those that do: who feels it, what the words add, how much is people. */
    private static final class Feelings {
        private final House house;
        private final Fraction fraction;

        Feelings(House house, Fraction fraction) {
            this.house = house;
            this.fraction = fraction;
        }

        void weighFelt(int ask, int mode) {
            int felt = 0;
            int done = 0;
            for (int sort = 0; sort < house.sorts; sort++) {
                felt += house.size(sort) * 10 * house.feeling(sort, ask, mode);
                done += house.size(sort) * house.doing(sort, ask, mode);
            }
            fraction.set(felt, done);
        }

        /** What the stage brings of a SORT beside the plain ask. */
        int gain(int sort, int ask) {
            return house.doing(sort, ask, STAGE) - house.doing(sort, ask, PLAIN);
        }

        int added(int ask) {
            int sum = 0;
            for (int sort = 0; sort < house.sorts; sort++) {
                sum += house.size(sort) * gain(sort, ask);
            }
            return sum / 100;
        }

        int mostHarmed(int ask) {
            int most = 0;
            for (int sort = 1; sort < house.sorts; sort++) {
                if (gain(sort, ask) > gain(most, ask)) {
                    most = sort;
                }
            }
            return most;
        }

        int eased(int sort, int ask) {
            return house.pain * house.feeling(sort, ask, STAGE) / 20;
        }

        /** PEOPLE'S PART of the scale of all asks but one (NONE: of all). */
        void weighPeople(int without) {
            long sum = 0;
            long squares = 0;
            long spread = 0;
            for (int sort = 0; sort < house.sorts; sort++) {
                long mean = 0;
                long size = house.size(sort);
                for (int ask = 0; ask < house.asks; ask++) {
                    long does = ask == without ? 0 : house.doing(sort, ask, STAGE);
                    mean += does;
                    spread += size * does * (100 - does);
                }
                sum += size * mean;
                squares += size * mean * mean;
            }
            long between = house.all * squares - sum * sum;
            fraction.set(between, between + house.all * spread);
        }

        int mostTelling() {
            int most = NONE;
            long leastAbove = 0;
            long leastBelow = 1;
            for (int ask = 0; ask < house.asks; ask++) {
                weighPeople(ask);
                long above = fraction.above;
                long below = Math.max(1, fraction.below);
                if (most == NONE || above * leastBelow < leastAbove * below) {
                    most = ask;
                    leastAbove = above;
                    leastBelow = below;
                }
            }
            return most;
        }
    }

    /** A NIGHT: who is there step by step, by draws. */
    private static final class Night {
        private final House house;
        private final boolean[] there = new boolean[PEOPLE];
        private final boolean[] played = new boolean[PEOPLE];
        private int present, stepsToSix;

        Night(House house) {
            this.house = house;
        }

        void play(Row row, int z) {
            for (int person = 0; person < there.length; person++) {
                there[person] = person < house.all;
            }
            for (int person = 0; person < played.length; person++) {
                played[person] = false;
            }
            present = house.all;
            stepsToSix = present <= 6 ? 0 : NONE;
            for (int step = 0; step < row.size; step++) {
                ask(row, step, 7919L * z + 3571L * step + 1);
                if (present <= 6 && stepsToSix == NONE) {
                    stepsToSix = step + 1;
                }
            }
        }

        /** A step; the draw's number is that of person 0. */
        private void ask(Row row, int step, long number) {
            int ask = row.ask(step);
            int follow = playedAt(person(0)) ? 1 : 0;
            int behind = 0;
            int person = 0;
            for (int sort = 0; sort < house.sorts; sort++) {
                int felt = house.feeling(sort, ask, STAGE);
                int does = House.doing(felt, House.tenths(house.playing(sort, ask, STAGE) + follow));
                behind += house.size(sort);
                for (; person < behind; person++) {
                    int draw = draw(number + 6151L * person);
                    keepOrSend(person, draw < does == row.keepsDoers(step), draw < does && draw >= 10 * felt);
                }
            }
        }

        private static int draw(long number) {
            return (int) (number * number % 65521 % 100);
        }

        private void keepOrSend(int person, boolean stays, boolean plays) {
            if (person < 0 || person >= there.length || person >= played.length || !there[person]) {
                return;
            }
            there[person] = stays;
            played[person] = stays && plays;
            if (!stays) {
                present--;
            }
        }

        private boolean playedAt(int person) {
            return person >= 0 && person < played.length && played[person];
        }

        int players() {
            int sum = 0;
            for (int person = 0; person < played.length; person++) {
                if (played[person]) {
                    sum++;
                }
            }
            return sum;
        }

        /** The i-th that is there, or NONE. */
        int person(int i) {
            int before = 0;
            for (int person = 0; person < there.length; person++) {
                if (there[person]) {
                    if (before == i) {
                        return person;
                    }
                    before++;
                }
            }
            return NONE;
        }
    }
}
