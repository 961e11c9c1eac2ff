/**
 * A party at the Grange, which nobody may be the first to leave.
 * The document ../shared/DOC.md tells what each call answers.
 * Some guests together are told as bits throughout: bit 0 is guest 0.
 */
public final class GrangeParty {
    public static final int NONE = -1, UNKNOWN = -101, OUTSIDE = -102, STATE = -103, FULL = -104;

    private static final int MOST_LETTERS = 36;
    private static final int MOST_GUESTS = 8;
    private static final int MOST_SHY = 9;
    private static final int MOST_FOOD = 99;
    private static final int MOST_MORE_FOOD = 50;
    private static final int MOST_HOURS = 999;
    private static final int MOST_HOURS_AHEAD = 60;
    private static final int MOST_TIMES = 60;
    private static final int MOST_OTHERS = 16;
    private static final int MOST_SEEN = 6;
    private static final int TENTHS = 10;

    private static final int LAST_OF_GUEST = 8;
    private static final int LAST_OF_COUNT = 9;
    private static final int DIGEST_START = 1277;
    private static final int DIGEST_TENTHS = 4;

    private final Page page = new Page();
    private final Room room = new Room();
    private final Seen seen = new Seen();
    private final Room imageRoom = new Room();
    private final Seen imageSeen = new Seen();
    /** A copy in which hours can go by that nobody lives through. */
    private final Room trial = new Room();
    private final Risers risers = new Risers();
    private final Chances chances = new Chances();
    private final Homes homes = new Homes();
    private final Draws draws = new Draws();
    private boolean imageKept;
    private int partiesRead;

    public GrangeParty() {
    }

    // ---- the party

    public int letter(int code) {
        if (code < 32 || code > 126) {
            return OUTSIDE;
        }
        if (page.length >= MOST_LETTERS) {
            return FULL;
        }
        return page.append(code);
    }

    public int blank() {
        return page.clear();
    }

    public int fault() {
        return page.firstFault();
    }

    public int party() {
        if (!page.isParty()) {
            return STATE;
        }
        room.readFrom(page);
        page.clear();
        seen.clear();
        imageKept = false;
        partiesRead++;
        return room.guests;
    }

    // ---- guests

    public int guest(int guest, int what) {
        if (!room.hasGuest(guest)) {
            return UNKNOWN;
        }
        if (what < 0 || what > LAST_OF_GUEST) {
            return OUTSIDE;
        }
        if (what == LAST_OF_GUEST) {
            homes.find(room);
        }
        return tellOfGuest(guest, what);
    }

    public int as(int guest, int kind) {
        if (!room.hasGuest(guest)) {
            return UNKNOWN;
        }
        if (!Kinds.isKind(kind)) {
            return OUTSIDE;
        }
        return Kinds.isSuch(room.kind[guest], kind) ? guest : NONE;
    }

    // ---- what is done

    public int rise(int some) {
        if (some == 0 || (some & ~room.everyone()) != 0) {
            return UNKNOWN;
        }
        if ((some & ~room.here) != 0 || room.whoCanGo(some) != some) {
            return STATE;
        }
        room.here &= ~some;
        return Integer.bitCount(some);
    }

    public int hour() {
        if (!hasParty()) {
            return STATE;
        }
        if (room.hours >= MOST_HOURS) {
            return FULL;
        }
        return room.letHourPass();
    }

    public int hint(int guest) {
        if (!room.hasGuest(guest)) {
            return UNKNOWN;
        }
        if (!room.isHere(guest)) {
            return STATE;
        }
        room.makeLessShy(guest);
        return room.shy[guest];
    }

    public int back(int guest) {
        if (!room.hasGuest(guest)) {
            return UNKNOWN;
        }
        if (room.isHere(guest)) {
            return STATE;
        }
        room.here |= 1 << guest;
        return Integer.bitCount(room.here);
    }

    public int feed(int more) {
        if (more < 1 || more > MOST_MORE_FOOD) {
            return OUTSIDE;
        }
        if (!hasParty()) {
            return STATE;
        }
        if (room.food + more > MOST_FOOD) {
            return FULL;
        }
        room.food += more;
        return room.food;
    }

    public int turn(int guest, int kind, int shy) {
        if (!room.hasGuest(guest)) {
            return UNKNOWN;
        }
        if (!Kinds.isKind(kind) || shy < 0 || shy > MOST_SHY) {
            return OUTSIDE;
        }
        int was = room.kind[guest];
        room.kind[guest] = kind;
        room.shy[guest] = shy;
        return was;
    }

    // ---- what would be

    public int most() {
        if (!hasParty()) {
            return STATE;
        }
        return room.mostWhoRise();
    }

    public int least() {
        if (!hasParty()) {
            return STATE;
        }
        risers.find(room);
        return risers.fewest();
    }

    public int hire(int what) {
        if (what < 0 || what > 1) {
            return OUTSIDE;
        }
        if (!hasParty()) {
            return STATE;
        }
        return what == 0 ? Integer.bitCount(whoShouldBePale()) : whoShouldBePale();
    }

    public int ends() {
        if (!hasParty()) {
            return STATE;
        }
        trial.copyFrom(room);
        for (int hours = 0; hours <= MOST_HOURS_AHEAD; hours++) {
            if (trial.here == 0) {
                return hours;
            }
            trial.letHourPass();
        }
        return NONE;
    }

    public int odds(int guest, int tenths, int what) {
        if (!room.hasGuest(guest)) {
            return UNKNOWN;
        }
        if (tenths < 0 || tenths > TENTHS || what < 0 || what > 1) {
            return OUTSIDE;
        }
        if (!room.isHere(guest)) {
            return STATE;
        }
        risers.find(room);
        chances.find(risers, guest, tenths);
        return what == 0 ? chances.above : chances.below;
    }

    // ---- what is seen

    public int see(int guest, int others, boolean goes) {
        if (!room.hasGuest(guest)) {
            return UNKNOWN;
        }
        if (others < 0 || others > MOST_OTHERS) {
            return OUTSIDE;
        }
        if (seen.size >= MOST_SEEN) {
            return FULL;
        }
        return seen.add(guest, others, goes);
    }

    public int forget() {
        return seen.clear();
    }

    public int nights(int times, int seed, int what) {
        if (times < 1 || times > MOST_TIMES || seed < 0 || what < 0 || what > 2) {
            return OUTSIDE;
        }
        if (!hasParty()) {
            return STATE;
        }
        tryNights(times, seed);
        if (what == 0) {
            return Integer.bitCount(trial.gone());
        }
        return what == 1 ? trial.food : draws.seed;
    }

    // ---- what is told of all

    public int image() {
        if (!hasParty()) {
            return STATE;
        }
        imageRoom.copyFrom(room);
        imageSeen.copyFrom(seen);
        imageKept = true;
        return room.hours;
    }

    public int restore() {
        if (!imageKept) {
            return STATE;
        }
        room.copyFrom(imageRoom);
        seen.copyFrom(imageSeen);
        return room.hours;
    }

    public int count(int what) {
        switch (what) {
            case 0:
                return room.guests;
            case 1:
                return Integer.bitCount(room.here);
            case 2:
                return room.food;
            case 3:
                return room.hours;
            case 4:
                return room.shyTogether(room.here);
            case 5:
                return room.countTogether(room.gone());
            case 6:
                return Integer.bitCount(room.whoCanGoAlone());
            case 7:
                return seen.size;
            case 8:
                return page.length;
            case 9:
                return partiesRead;
            default:
                return OUTSIDE;
        }
    }

    public long digest() {
        long h = DIGEST_START;
        if (hasParty()) {
            // Found once here: each of these looks at every choice of guests.
            homes.find(room);
            risers.find(room);
            h = mixGuests(h);
            h = mix(h, most());
            h = mix(h, risers.fewest());
            h = mix(h, hire(0));
            h = mix(h, hire(1));
            h = mix(h, ends());
            h = mixOdds(h);
        }
        for (int place = 0; place < page.length; place++) {
            h = mix(h, page.at(place));
        }
        for (int what = 0; what <= LAST_OF_COUNT; what++) {
            h = mix(h, count(what));
        }
        return h;
    }

    private boolean hasParty() {
        return room.guests > 0;
    }

    /** Homes must have been found, if they are asked for; guest and what must be tested. */
    private int tellOfGuest(int guest, int what) {
        switch (what) {
            case 0:
                return room.kind[guest];
            case 1:
                return room.shy[guest];
            case 2:
                return room.friend[guest];
            case 3:
                return room.isHere(guest) ? 1 : 0;
            case 4:
                return room.needsOf(guest);
            case 5:
                return Kinds.countsAs(room.kind[guest]);
            case 6:
                return seen.shynessOf(guest, room.kind[guest]);
            case 7:
                return Seen.whatToAsk(room.kind[guest], seen.shynessOf(guest, room.kind[guest]));
            default:
                return homes.hints[guest];
        }
    }

    /**
     * To be pale changes nothing for others, but that a cough would count as less (and he needs none already),
     * and a friend of one who is here is here too, or gone: so just those who cannot go with all should be pale.
     */
    private int whoShouldBePale() {
        return room.here & ~room.whoCanGo(room.here);
    }

    private void tryNights(int times, int seed) {
        trial.copyFrom(room);
        draws.seed = seed;
        for (int time = 0; time < times; time++) {
            if (draws.next(3) == 0) {
                int guest = draws.next(trial.guests);
                if (trial.isHere(guest)) {
                    trial.makeLessShy(guest);
                }
            } else {
                trial.letHourPass();
            }
        }
    }

    private long mixGuests(long start) {
        long h = start;
        for (int guest = 0; guest < room.guests && guest < MOST_GUESTS; guest++) {
            for (int what = 0; what <= LAST_OF_GUEST; what++) {
                h = mix(h, tellOfGuest(guest, what));
            }
        }
        return h;
    }

    private long mixOdds(long start) {
        long h = start;
        for (int guest = 0; guest < room.guests; guest++) {
            if (room.isHere(guest)) {
                chances.find(risers, guest, DIGEST_TENTHS);
                h = mix(h, chances.above);
                h = mix(h, chances.below);
            }
        }
        return h;
    }

    private static long mix(long h, long number) {
        return 31L * h + number;
    }

    /** The page: where a letter stands tells alone which letters a party has there. */
    private static final class Page {
        private static final int HEAD = 3;
        private static final int STRIDE = 4;

        final int[] letters = new int[MOST_LETTERS];
        int length;

        Page() {
        }

        int append(int code) {
            if (length < MOST_LETTERS) {
                letters[length] = code;
                length++;
            }
            return length;
        }

        int clear() {
            int had = length;
            length = 0;
            return had;
        }

        int at(int place) {
            return place < 0 || place >= length ? NONE : letters[place];
        }

        int digitAt(int place) {
            return at(place) - '0';
        }

        int firstFault() {
            for (int place = 0; place < length && place < MOST_LETTERS; place++) {
                if (!fits(place, letters[place])) {
                    return place;
                }
            }
            return length;
        }

        boolean isParty() {
            boolean endsWithGuest = length > HEAD && (length - HEAD) % STRIDE == STRIDE - 1;
            return endsWithGuest && guests() >= 2 && firstFault() == length;
        }

        int guests() {
            return (length - HEAD + 1) / STRIDE;
        }

        static int placeOf(int guest) {
            return HEAD + STRIDE * guest;
        }

        private static boolean fits(int place, int code) {
            if (place < HEAD - 1) {
                return isDigitBelow(code, 10);
            }
            if (place == HEAD - 1) {
                return code == ';';
            }
            return fitsGuest((place - HEAD) / STRIDE, (place - HEAD) % STRIDE, code);
        }

        private static boolean fitsGuest(int guest, int step, int code) {
            if (guest >= MOST_GUESTS) {
                return false;
            }
            switch (step) {
                case 0:
                    return Kinds.ofLetter(code) != NONE;
                case 1:
                    return isDigitBelow(code, 10);
                case 2:
                    return code == '-' || isDigitBelow(code, guest);
                default:
                    return code == ',' && guest < MOST_GUESTS - 1;
            }
        }

        private static boolean isDigitBelow(int code, int bound) {
            return code >= '0' && code < '0' + bound;
        }
    }

    /** What the kinds need and count as, each told by its number. */
    private static final class Kinds {
        private static final String LETTERS = "gchpk";
        private static final int GUEST = 0, CLEVER = 1, HOST = 2, PALE = 3, COUGH = 4;

        private Kinds() {
        }

        static boolean isKind(int kind) {
            return kind >= GUEST && kind <= COUGH;
        }

        static int ofLetter(int code) {
            for (int kind = 0; kind < LETTERS.length(); kind++) {
                if (LETTERS.charAt(kind) == code) {
                    return kind;
                }
            }
            return NONE;
        }

        static boolean isSuch(int kind, int wanted) {
            return wanted == GUEST || wanted == kind || wanted == PALE && kind == COUGH;
        }

        static int needs(int kind, int shy) {
            switch (kind) {
                case CLEVER:
                    return shy / 2;
                case HOST:
                    return shy + 2;
                case PALE:
                case COUGH:
                    return 0;
                default:
                    return shy;
            }
        }

        static int countsAs(int kind) {
            return kind == COUGH ? 2 : 1;
        }

        /** How many hints till he needs no more than these others; NONE: no hints help. */
        static int hintsTill(int kind, int shy, int others) {
            for (int hints = 0; hints <= shy; hints++) {
                if (needs(kind, shy - hints) <= others) {
                    return hints;
                }
            }
            return NONE;
        }
    }

    /** The guests, who of them is here, the food and the hours. */
    private static final class Room {
        final int[] kind = new int[MOST_GUESTS];
        final int[] shy = new int[MOST_GUESTS];
        final int[] friend = new int[MOST_GUESTS];
        int guests;
        int here;
        int food;
        int hours;

        Room() {
        }

        /** The page must be a party. */
        void readFrom(Page page) {
            guests = page.guests();
            here = everyone();
            food = 10 * page.digitAt(0) + page.digitAt(1);
            hours = 0;
            for (int i = 0; i < guests && i < MOST_GUESTS; i++) {
                int place = Page.placeOf(i);
                kind[i] = Kinds.ofLetter(page.at(place));
                shy[i] = page.digitAt(place + 1);
                friend[i] = page.at(place + 2) == '-' ? NONE : page.digitAt(place + 2);
            }
        }

        void copyFrom(Room other) {
            System.arraycopy(other.kind, 0, kind, 0, MOST_GUESTS);
            System.arraycopy(other.shy, 0, shy, 0, MOST_GUESTS);
            System.arraycopy(other.friend, 0, friend, 0, MOST_GUESTS);
            guests = other.guests;
            here = other.here;
            food = other.food;
            hours = other.hours;
        }

        boolean hasGuest(int guest) {
            return guest >= 0 && guest < guests && guest < MOST_GUESTS;
        }

        boolean isHere(int guest) {
            return isAmong(guest, here);
        }

        int everyone() {
            return (1 << guests) - 1;
        }

        int gone() {
            return everyone() & ~here;
        }

        int needsOf(int guest) {
            return Kinds.needs(kind[guest], shy[guest]);
        }

        int countTogether(int some) {
            int sum = 0;
            for (int i = 0; i < MOST_GUESTS; i++) {
                if (isAmong(i, some)) {
                    sum += Kinds.countsAs(kind[i]);
                }
            }
            return sum;
        }

        int shyTogether(int some) {
            int sum = 0;
            for (int i = 0; i < MOST_GUESTS; i++) {
                if (isAmong(i, some)) {
                    sum += shy[i];
                }
            }
            return sum;
        }

        boolean hasFriendAmong(int guest, int company) {
            return friend[guest] == NONE || isAmong(friend[guest], company);
        }

        /** Who of some, all of them here, can go with these. */
        int whoCanGo(int some) {
            int company = some | gone();
            int together = countTogether(company);
            int can = 0;
            for (int i = 0; i < MOST_GUESTS; i++) {
                if (isAmong(i, some) && hasFriendAmong(i, company)
                        && together - Kinds.countsAs(kind[i]) >= needsOf(i)) {
                    can |= 1 << i;
                }
            }
            return can;
        }

        /** All who can rise together: who cannot go with many cannot go with fewer of these. */
        int mostWhoRise() {
            int some = here;
            for (int round = 0; round < MOST_GUESTS; round++) {
                some = whoCanGo(some);
            }
            return some;
        }

        /** Who of those here could go by himself. */
        int whoCanGoAlone() {
            int gone = gone();
            int together = countTogether(gone);
            int can = 0;
            for (int i = 0; i < MOST_GUESTS; i++) {
                if (isHere(i) && hasFriendAmong(i, gone) && together >= needsOf(i)) {
                    can |= 1 << i;
                }
            }
            return can;
        }

        /** How many go. */
        int letHourPass() {
            int before = Integer.bitCount(here);
            hours++;
            food = Math.max(0, food - before);
            if (food == 0) {
                makeAllLessShy();
            }
            goOneByOne();
            return before - Integer.bitCount(here);
        }

        void makeLessShy(int guest) {
            shy[guest] = Math.max(0, shy[guest] - 1);
        }

        private void makeAllLessShy() {
            for (int i = 0; i < MOST_GUESTS; i++) {
                if (isHere(i)) {
                    makeLessShy(i);
                }
            }
        }

        private void goOneByOne() {
            int can = whoCanGoAlone();
            for (int went = 0; went < MOST_GUESTS && can != 0; went++) {
                int first = can & -can;
                here &= ~first;
                can = whoCanGoAlone();
            }
        }
    }

    /** For each choice of those who are here: the most of these who can rise together. */
    private static final class Risers {
        final int[] most = new int[1 << MOST_GUESTS];
        int here;

        Risers() {
        }

        void find(Room room) {
            here = room.here;
            for (int some = 1; some <= here && some < most.length; some++) {
                if (isChoice(some)) {
                    int can = room.whoCanGo(some);
                    // Who cannot go with many cannot go with fewer of these, and the fewer stand in the row already.
                    most[some] = can == some ? some : mostOf(can);
                }
            }
        }

        private int mostOf(int some) {
            return some < 0 || some >= most.length ? 0 : most[some];
        }

        /** Whether all of some are here. */
        boolean isChoice(int some) {
            return (some & ~here) == 0;
        }

        int fewest() {
            int fewest = 0;
            for (int some = 1; some <= here && some < most.length; some++) {
                if (isChoice(some) && most[some] == some
                        && (fewest == 0 || Integer.bitCount(some) < Integer.bitCount(fewest))) {
                    fewest = some;
                }
            }
            return fewest;
        }
    }

    /** How likely one can be among some who rise together, if each of the others sleeps by chance. */
    private static final class Chances {
        /** By how many others are awake: of ten to the power of all others, how many fall to each such choice. */
        final int[] weight = new int[MOST_GUESTS];
        int above;
        int below;

        Chances() {
        }

        /** The risers must have been found, and guest must be here. */
        void find(Risers risers, int guest, int tenths) {
            int others = Integer.bitCount(risers.here) - 1;
            weigh(others, tenths);
            above = 0;
            for (int some = 1; some <= risers.here && some < risers.most.length; some++) {
                if (risers.isChoice(some) && isAmong(guest, risers.most[some])) {
                    above += weightOf(some);
                }
            }
            below = power(TENTHS, others);
            reduce();
        }

        private void weigh(int others, int tenths) {
            for (int awake = 0; awake <= others && awake < MOST_GUESTS; awake++) {
                weight[awake] = power(TENTHS - tenths, awake) * power(tenths, others - awake);
            }
        }

        private int weightOf(int some) {
            int awake = Integer.bitCount(some) - 1;
            return awake < 0 || awake >= MOST_GUESTS ? 0 : weight[awake];
        }

        private void reduce() {
            int common = commonDivisor(above, below);
            if (common > 1) {
                above /= common;
                below /= common;
            }
        }

        private static int power(int base, int exponent) {
            int product = 1;
            for (int i = 0; i < exponent; i++) {
                product *= base;
            }
            return product;
        }

        private static int commonDivisor(int one, int other) {
            int a = one;
            int b = other;
            // Two rounds at least halve a, so no int needs as many as 64.
            for (int round = 0; round < 64 && b != 0; round++) {
                int rest = a % b;
                a = b;
                b = rest;
            }
            return a;
        }
    }

    /** By how few hints each guest could be among some who rise together. */
    private static final class Homes {
        final int[] hints = new int[MOST_GUESTS];

        Homes() {
        }

        void find(Room room) {
            for (int i = 0; i < MOST_GUESTS; i++) {
                hints[i] = NONE;
            }
            for (int some = 1; some <= room.here && some < 1 << MOST_GUESTS; some++) {
                if ((some & ~room.here) == 0) {
                    noteFor(some, hintsToRise(room, some));
                }
            }
        }

        private void noteFor(int some, int needed) {
            if (needed == NONE) {
                return;
            }
            for (int i = 0; i < MOST_GUESTS; i++) {
                if (isAmong(i, some) && (hints[i] == NONE || needed < hints[i])) {
                    hints[i] = needed;
                }
            }
        }

        private static int hintsToRise(Room room, int some) {
            int company = some | room.gone();
            int together = room.countTogether(company);
            int sum = 0;
            for (int i = 0; i < MOST_GUESTS; i++) {
                if (isAmong(i, some)) {
                    int others = together - Kinds.countsAs(room.kind[i]);
                    int needed = Kinds.hintsTill(room.kind[i], room.shy[i], others);
                    if (needed == NONE || !room.hasFriendAmong(i, company)) {
                        return NONE;
                    }
                    sum += needed;
                }
            }
            return sum;
        }
    }

    /** What is seen of those of whom it is not known how shy they are. */
    private static final class Seen {
        private static final int ANY_SHYNESS = (1 << (MOST_SHY + 1)) - 1;

        final int[] guest = new int[MOST_SEEN];
        final int[] others = new int[MOST_SEEN];
        final boolean[] goes = new boolean[MOST_SEEN];
        int size;

        Seen() {
        }

        int add(int whom, int withOthers, boolean wouldGo) {
            if (size < MOST_SEEN) {
                guest[size] = whom;
                others[size] = withOthers;
                goes[size] = wouldGo;
                size++;
            }
            return size;
        }

        int clear() {
            int had = size;
            size = 0;
            return had;
        }

        void copyFrom(Seen other) {
            size = other.size;
            for (int i = 0; i < MOST_SEEN; i++) {
                guest[i] = other.guest[i];
                others[i] = other.others[i];
                goes[i] = other.goes[i];
            }
        }

        int shynessOf(int whom, int kind) {
            int shyness = ANY_SHYNESS;
            for (int i = 0; i < size && i < MOST_SEEN; i++) {
                if (guest[i] == whom) {
                    int going = shynessThatGoes(kind, others[i]);
                    shyness &= goes[i] ? going : ~going;
                }
            }
            return shyness;
        }

        static int whatToAsk(int kind, int shyness) {
            if (shyness == 0) {
                return NONE;
            }
            int ask = NONE;
            int fewest = MOST_SHY + 2;
            for (int others = 0; others <= MOST_OTHERS; others++) {
                int going = shyness & shynessThatGoes(kind, others);
                int left = Math.max(Integer.bitCount(going), Integer.bitCount(shyness & ~going));
                if (left < fewest) {
                    ask = others;
                    fewest = left;
                }
            }
            return ask;
        }

        private static int shynessThatGoes(int kind, int others) {
            int going = 0;
            for (int shy = 0; shy <= MOST_SHY; shy++) {
                if (Kinds.needs(kind, shy) <= others) {
                    going |= 1 << shy;
                }
            }
            return going;
        }
    }

    /** The draws that a seed gives. */
    private static final class Draws {
        int seed;

        Draws() {
        }

        int next(int bound) {
            seed = (int) ((1103515245L * seed + 12345L) % (1L << 31));
            return bound <= 0 ? 0 : seed / 65536 % bound;
        }
    }

    private static boolean isAmong(int guest, int some) {
        return (some >> guest & 1) == 1;
    }
}
