import java.math.BigInteger;
import java.util.ArrayList;
import java.util.HashSet;
import java.util.List;
import java.util.Random;
import java.util.Set;
import java.util.regex.Matcher;
import java.util.regex.Pattern;

/** Long runs of calls beside a model that tries all choices, as the document's words say it. */
public final class ModelTest {
    private static final int NONE = -1, UNKNOWN = -101, OUTSIDE = -102, STATE = -103, FULL = -104;
    private static final int RUNS = 400;
    private static final int CALLS = 512;
    private static int wrong = 0;

    private static final class One {
        char kind;
        int shy;
        int friend;
        boolean here = true;

        One copy() {
            One one = new One();
            one.kind = kind;
            one.shy = shy;
            one.friend = friend;
            one.here = here;
            return one;
        }

        int needs() {
            return needs(shy);
        }

        int needs(int asShy) {
            if (kind == 'p' || kind == 'k') {
                return 0;
            }
            return kind == 'c' ? asShy / 2 : kind == 'h' ? asShy + 2 : asShy;
        }

        int counts() {
            return kind == 'k' ? 2 : 1;
        }
    }

    private record Sight(int guest, int others, boolean goes) {
    }

    /** All that an image keeps. */
    private static final class Night {
        List<One> all = new ArrayList<>();
        List<Sight> seen = new ArrayList<>();
        int food;
        int hours;

        Night copy() {
            Night night = new Night();
            for (One one : all) {
                night.all.add(one.copy());
            }
            night.seen.addAll(seen);
            night.food = food;
            night.hours = hours;
            return night;
        }

        int here() {
            int bits = 0;
            for (int i = 0; i < all.size(); i++) {
                bits |= all.get(i).here ? 1 << i : 0;
            }
            return bits;
        }

        boolean canGoWith(int guest, int some) {
            One one = all.get(guest);
            int others = 0;
            boolean friend = one.friend == NONE;
            for (int i = 0; i < all.size(); i++) {
                boolean comes = !all.get(i).here || (some >> i & 1) == 1;
                if (comes && i != guest) {
                    others += all.get(i).counts();
                }
                friend |= comes && i == one.friend;
            }
            return friend && others >= one.needs();
        }

        boolean canRise(int some) {
            for (int i = 0; i < all.size(); i++) {
                if ((some >> i & 1) == 1 && !(all.get(i).here && canGoWith(i, some))) {
                    return false;
                }
            }
            return some != 0;
        }

        boolean canBeAmong(int guest, int awake) {
            for (int some = 1; some <= awake; some++) {
                if ((some & ~awake) == 0 && (some >> guest & 1) == 1 && canRise(some)) {
                    return true;
                }
            }
            return false;
        }

        int hour() {
            hours++;
            for (One one : all) {
                if (one.here && food > 0) {
                    food--;
                }
            }
            if (food == 0) {
                for (int i = 0; i < all.size(); i++) {
                    hint(i);
                }
            }
            int went = 0;
            for (int i = 0; i < all.size(); i++) {
                if (all.get(i).here && canGoWith(i, 1 << i)) {
                    all.get(i).here = false;
                    went++;
                    i = -1;
                }
            }
            return went;
        }

        void hint(int guest) {
            One one = all.get(guest);
            if (one.here && one.shy > 0) {
                one.shy--;
            }
        }

        int most() {
            int union = 0;
            for (int some = 1; some < 1 << all.size(); some++) {
                union |= canRise(some) ? some : 0;
            }
            if (union != 0 && !canRise(union)) {
                throw new IllegalStateException("the model's most cannot rise");
            }
            return union;
        }

        int least() {
            for (int size = 1; size <= all.size(); size++) {
                for (int some = 1; some < 1 << all.size(); some++) {
                    if (Integer.bitCount(some) == size && canRise(some)) {
                        return some;
                    }
                }
            }
            return 0;
        }

        int hire() {
            int here = here();
            for (int size = 0; size <= all.size(); size++) {
                for (int some = 0; some <= here; some++) {
                    if ((some & ~here) == 0 && Integer.bitCount(some) == size && allRiseIfPale(some)) {
                        return some;
                    }
                }
            }
            throw new IllegalStateException("all pale cannot rise");
        }

        private boolean allRiseIfPale(int some) {
            Night night = copy();
            for (int i = 0; i < all.size(); i++) {
                if ((some >> i & 1) == 1) {
                    night.all.get(i).kind = 'p';
                }
            }
            return here() == 0 || night.canRise(here());
        }

        int ends() {
            Night night = copy();
            for (int hours = 0; hours <= 60; hours++) {
                if (night.here() == 0) {
                    return hours;
                }
                night.hour();
            }
            return NONE;
        }

        /** By giving one hint more at a time, to each in turn, where few are here; else by who comes along. */
        int home(int guest) {
            if (!all.get(guest).here) {
                return NONE;
            }
            return Integer.bitCount(here()) <= 3 ? homeByHints(guest) : homeByCompany(guest);
        }

        private int homeByHints(int guest) {
            List<Night> nights = List.of(copy());
            for (int hints = 0; !nights.isEmpty(); hints++) {
                List<Night> next = new ArrayList<>();
                Set<String> known = new HashSet<>();
                for (Night night : nights) {
                    if (night.canBeAmong(guest, here())) {
                        return hints;
                    }
                    for (int i = 0; i < all.size(); i++) {
                        Night hinted = night.copy();
                        hinted.hint(i);
                        if (hinted.all.get(i).shy < night.all.get(i).shy && known.add(hinted.shyness())) {
                            next.add(hinted);
                        }
                    }
                }
                nights = next;
            }
            return NONE;
        }

        private String shyness() {
            StringBuilder text = new StringBuilder();
            for (One one : all) {
                text.append(one.shy);
            }
            return text.toString();
        }

        private int homeByCompany(int guest) {
            int fewest = Integer.MAX_VALUE;
            for (int some = 1; some <= here(); some++) {
                if ((some & ~here()) == 0 && (some >> guest & 1) == 1) {
                    fewest = Math.min(fewest, hintsFor(some));
                }
            }
            return fewest == Integer.MAX_VALUE ? NONE : fewest;
        }

        private int hintsFor(int some) {
            Night night = copy();
            int hints = 0;
            for (int i = 0; i < all.size(); i++) {
                while ((some >> i & 1) == 1 && !night.canGoWith(i, some)) {
                    if (night.all.get(i).shy == 0) {
                        return Integer.MAX_VALUE;
                    }
                    night.hint(i);
                    hints++;
                }
            }
            return hints;
        }

        BigInteger[] odds(int guest, int tenths) {
            BigInteger above = BigInteger.ZERO;
            BigInteger below = BigInteger.TEN.pow(Integer.bitCount(here()) - 1);
            int others = here() & ~(1 << guest);
            for (int asleep = 0; asleep <= others; asleep++) {
                if ((asleep & ~others) == 0 && canBeAmong(guest, here() & ~asleep)) {
                    int sleepers = Integer.bitCount(asleep);
                    int awake = Integer.bitCount(others) - sleepers;
                    above = above.add(BigInteger.valueOf(tenths).pow(sleepers)
                            .multiply(BigInteger.valueOf(10 - tenths).pow(awake)));
                }
            }
            BigInteger common = above.gcd(below);
            return new BigInteger[] {above.divide(common), below.divide(common)};
        }

        List<Integer> shynessOf(int guest) {
            List<Integer> can = new ArrayList<>();
            for (int shy = 0; shy <= 9; shy++) {
                boolean is = true;
                for (Sight sight : seen) {
                    if (sight.guest() == guest) {
                        is &= (sight.others() >= all.get(guest).needs(shy)) == sight.goes();
                    }
                }
                if (is) {
                    can.add(shy);
                }
            }
            return can;
        }

        int ask(int guest) {
            List<Integer> can = shynessOf(guest);
            int best = NONE;
            int bestLeft = Integer.MAX_VALUE;
            for (int others = 16; others >= 0 && !can.isEmpty(); others--) {
                int would = 0;
                for (int shy : can) {
                    would += all.get(guest).needs(shy) <= others ? 1 : 0;
                }
                int left = Math.max(would, can.size() - would);
                if (left <= bestLeft) {
                    best = others;
                    bestLeft = left;
                }
            }
            return best;
        }
    }

    private static final class Model {
        private static final Pattern WHOLE = Pattern.compile("[0-9]{2};[gchpk][0-9][-0-7](,[gchpk][0-9][-0-7]){1,7}");
        private static final String KINDS = "gchpk";
        String page = "";
        Night night = new Night();
        Night kept;
        int read;

        private boolean unknown(int guest) {
            return guest < 0 || guest >= night.all.size();
        }

        private boolean none() {
            return night.all.isEmpty();
        }

        private static boolean out(int number, int low, int high) {
            return number < low || number > high;
        }

        int letter(int code) {
            if (out(code, 32, 126)) {
                return OUTSIDE;
            }
            if (page.length() == 36) {
                return FULL;
            }
            page += (char) code;
            return page.length();
        }

        int blank() {
            int had = page.length();
            page = "";
            return had;
        }

        private static boolean isWhole(String text) {
            if (!WHOLE.matcher(text).matches()) {
                return false;
            }
            String[] guests = text.substring(3).split(",");
            for (int i = 0; i < guests.length; i++) {
                char friend = guests[i].charAt(2);
                if (friend != '-' && friend - '0' >= i) {
                    return false;
                }
            }
            return true;
        }

        /** Some text that a party goes on with behind a beginning, by how long that is. */
        private static boolean canBegin(String text) {
            String form = "00;g0-,g0-,g0-,g0-,g0-,g0-,g0-,g0-";
            if (text.length() > form.length()) {
                return false;
            }
            return isWhole(text + form.substring(text.length()));
        }

        int fault() {
            int good = 0;
            while (good < page.length() && canBegin(page.substring(0, good + 1))) {
                good++;
            }
            return good;
        }

        int party() {
            if (!isWhole(page)) {
                return STATE;
            }
            night = new Night();
            night.food = Integer.parseInt(page.substring(0, 2));
            Matcher guests = Pattern.compile("([gchpk])(.)(.)").matcher(page);
            while (guests.find()) {
                One one = new One();
                one.kind = guests.group(1).charAt(0);
                one.shy = Integer.parseInt(guests.group(2));
                one.friend = guests.group(3).equals("-") ? NONE : Integer.parseInt(guests.group(3));
                night.all.add(one);
            }
            page = "";
            kept = null;
            read++;
            return night.all.size();
        }

        int guest(int guest, int what) {
            if (unknown(guest)) {
                return UNKNOWN;
            }
            One one = night.all.get(guest);
            switch (what) {
                case 0: return KINDS.indexOf(one.kind);
                case 1: return one.shy;
                case 2: return one.friend;
                case 3: return one.here ? 1 : 0;
                case 4: return one.needs();
                case 5: return one.counts();
                case 6: return night.shynessOf(guest).stream().mapToInt(shy -> 1 << shy).sum();
                case 7: return night.ask(guest);
                case 8: return night.home(guest);
                default: return OUTSIDE;
            }
        }

        int as(int guest, int kind) {
            if (unknown(guest)) {
                return UNKNOWN;
            }
            if (out(kind, 0, 4)) {
                return OUTSIDE;
            }
            char is = night.all.get(guest).kind;
            boolean such = kind == 0 || KINDS.charAt(kind) == is || kind == 3 && is == 'k';
            return such ? guest : NONE;
        }

        int rise(int some) {
            if (some <= 0 || some >= 1 << night.all.size()) {
                return UNKNOWN;
            }
            if (!night.canRise(some)) {
                return STATE;
            }
            for (int i = 0; i < night.all.size(); i++) {
                if ((some >> i & 1) == 1) {
                    night.all.get(i).here = false;
                }
            }
            return Integer.bitCount(some);
        }

        int hour() {
            return none() ? STATE : night.hours == 999 ? FULL : night.hour();
        }

        int hint(int guest) {
            if (unknown(guest)) {
                return UNKNOWN;
            }
            if (!night.all.get(guest).here) {
                return STATE;
            }
            night.hint(guest);
            return night.all.get(guest).shy;
        }

        int back(int guest) {
            if (unknown(guest)) {
                return UNKNOWN;
            }
            if (night.all.get(guest).here) {
                return STATE;
            }
            night.all.get(guest).here = true;
            return Integer.bitCount(night.here());
        }

        int feed(int more) {
            if (out(more, 1, 50)) {
                return OUTSIDE;
            }
            if (none()) {
                return STATE;
            }
            if (night.food + more > 99) {
                return FULL;
            }
            return night.food += more;
        }

        int turn(int guest, int kind, int shy) {
            if (unknown(guest)) {
                return UNKNOWN;
            }
            if (out(kind, 0, 4) || out(shy, 0, 9)) {
                return OUTSIDE;
            }
            One one = night.all.get(guest);
            int was = KINDS.indexOf(one.kind);
            one.kind = KINDS.charAt(kind);
            one.shy = shy;
            return was;
        }

        int most() {
            return none() ? STATE : night.most();
        }

        int least() {
            return none() ? STATE : night.least();
        }

        int hire(int what) {
            if (out(what, 0, 1)) {
                return OUTSIDE;
            }
            return none() ? STATE : what == 1 ? night.hire() : Integer.bitCount(night.hire());
        }

        int ends() {
            return none() ? STATE : night.ends();
        }

        int odds(int guest, int tenths, int what) {
            if (unknown(guest)) {
                return UNKNOWN;
            }
            if (out(tenths, 0, 10) || out(what, 0, 1)) {
                return OUTSIDE;
            }
            return night.all.get(guest).here ? night.odds(guest, tenths)[what].intValueExact() : STATE;
        }

        int see(int guest, int others, boolean goes) {
            if (unknown(guest)) {
                return UNKNOWN;
            }
            if (out(others, 0, 16)) {
                return OUTSIDE;
            }
            if (night.seen.size() == 6) {
                return FULL;
            }
            night.seen.add(new Sight(guest, others, goes));
            return night.seen.size();
        }

        int forget() {
            int had = night.seen.size();
            night.seen.clear();
            return had;
        }

        int nights(int times, int seed, int what) {
            if (out(times, 1, 60) || seed < 0 || out(what, 0, 2)) {
                return OUTSIDE;
            }
            if (none()) {
                return STATE;
            }
            Night would = night.copy();
            BigInteger now = BigInteger.valueOf(seed);
            for (int i = 0; i < times; i++) {
                now = nextSeed(now);
                if (drawn(now, 3) == 0) {
                    now = nextSeed(now);
                    would.hint(drawn(now, would.all.size()));
                } else {
                    would.hour();
                }
            }
            int gone = would.all.size() - Integer.bitCount(would.here());
            return what == 0 ? gone : what == 1 ? would.food : now.intValueExact();
        }

        private static BigInteger nextSeed(BigInteger seed) {
            return seed.multiply(BigInteger.valueOf(1103515245)).add(BigInteger.valueOf(12345))
                    .mod(BigInteger.TWO.pow(31));
        }

        private static int drawn(BigInteger seed, int of) {
            return seed.divide(BigInteger.valueOf(65536)).mod(BigInteger.valueOf(of)).intValueExact();
        }

        int image() {
            if (none()) {
                return STATE;
            }
            kept = night.copy();
            return night.hours;
        }

        int restore() {
            if (kept == null) {
                return STATE;
            }
            night = kept.copy();
            return night.hours;
        }

        int count(int what) {
            int here = 0, shy = 0, gone = 0, alone = 0;
            for (int i = 0; i < night.all.size(); i++) {
                One one = night.all.get(i);
                here += one.here ? 1 : 0;
                shy += one.here ? one.shy : 0;
                gone += one.here ? 0 : one.counts();
                alone += one.here && night.canRise(1 << i) ? 1 : 0;
            }
            int[] told = {night.all.size(), here, night.food, night.hours, shy, gone, alone, night.seen.size(),
                page.length(), read};
            return out(what, 0, 9) ? OUTSIDE : told[what];
        }

        long digest() {
            List<Integer> numbers = new ArrayList<>();
            for (int i = 0; i < night.all.size(); i++) {
                for (int what = 0; what <= 8; what++) {
                    numbers.add(guest(i, what));
                }
            }
            if (!none()) {
                numbers.addAll(List.of(most(), least(), hire(0), hire(1), ends()));
            }
            for (int i = 0; i < night.all.size(); i++) {
                if (night.all.get(i).here) {
                    numbers.add(odds(i, 4, 0));
                    numbers.add(odds(i, 4, 1));
                }
            }
            for (char letter : page.toCharArray()) {
                numbers.add((int) letter);
            }
            for (int what = 0; what <= 9; what++) {
                numbers.add(count(what));
            }
            long h = 1277;
            for (int number : numbers) {
                h = 31 * h + number;
            }
            return h;
        }
    }

    private static final class Run {
        final int number;
        final Random random;
        final GrangeParty x = new GrangeParty();
        final Model model = new Model();
        int call;

        Run(int number) {
            this.number = number;
            random = new Random(number);
        }

        void due(String name, long got, long want) {
            call++;
            if (got != want && wrong++ < 20) {
                System.out.println("run " + number + ", call " + call + ": " + name + " answered " + got
                        + ", the model says " + want);
            }
        }

        /** A number from low to high, seldom one off, seldom far off. */
        int near(int low, int high) {
            switch (random.nextInt(40)) {
                case 0: return low - 1;
                case 1: return high + 1;
                case 2: return random.nextInt();
                default: return low + random.nextInt(high - low + 1);
            }
        }

        int someGuest() {
            return near(0, Math.max(0, model.night.all.size() - 1));
        }

        String someParty() {
            int guests = random.nextInt(4) == 0 ? 8 : 2 + random.nextInt(7);
            int shyest = 1 + random.nextInt(10);
            StringBuilder text = new StringBuilder();
            text.append(random.nextInt(2) == 0 ? random.nextInt(10) : 0).append(random.nextInt(10)).append(';');
            for (int i = 0; i < guests; i++) {
                text.append(i == 0 ? "" : ",").append("gggchpk".charAt(random.nextInt(7)));
                text.append(random.nextInt(shyest));
                text.append(i == 0 || random.nextInt(3) != 0 ? "-" : "" + random.nextInt(i));
            }
            return text.toString();
        }

        void readOne() {
            due("blank()", x.blank(), model.blank());
            for (char c : someParty().toCharArray()) {
                due("letter(" + c + ")", x.letter(c), model.letter(c));
            }
            if (random.nextInt(8) == 0) {
                due("letter(,)", x.letter(','), model.letter(','));
            }
            due("fault()", x.fault(), model.fault());
            due("party()", x.party(), model.party());
        }

        void scribble() {
            String text = someParty();
            StringBuilder spoilt = new StringBuilder(text);
            spoilt.setCharAt(random.nextInt(text.length()), (char) near(32, 126));
            for (int i = 0; i < text.length() && i < 12; i++) {
                int code = spoilt.charAt(i);
                due("letter(" + code + ")", x.letter(code), model.letter(code));
            }
            due("fault()", x.fault(), model.fault());
            due("party()", x.party(), model.party());
        }

        void one() {
            int guest = someGuest();
            int pick = random.nextInt(60);
            if (pick < 10) {
                int what = near(0, 8);
                due("guest(" + guest + ", " + what + ")", x.guest(guest, what), model.guest(guest, what));
            } else if (pick < 13) {
                int kind = near(0, 4);
                due("as(" + guest + ", " + kind + ")", x.as(guest, kind), model.as(guest, kind));
            } else if (pick < 17) {
                int some = random.nextInt(4) == 0 ? model.most() : near(0, 1 << model.night.all.size());
                due("rise(" + some + ")", x.rise(some), model.rise(some));
            } else if (pick < 20) {
                due("hour()", x.hour(), model.hour());
            } else if (pick < 23) {
                due("hint(" + guest + ")", x.hint(guest), model.hint(guest));
            } else if (pick < 28) {
                due("back(" + guest + ")", x.back(guest), model.back(guest));
            } else if (pick < 30) {
                int more = near(1, random.nextInt(2) == 0 ? 5 : 50);
                due("feed(" + more + ")", x.feed(more), model.feed(more));
            } else if (pick < 32) {
                int kind = near(0, 4);
                int shy = near(0, 9);
                due("turn(" + guest + ", " + kind + ", " + shy + ")", x.turn(guest, kind, shy),
                        model.turn(guest, kind, shy));
            } else {
                another(guest, pick);
            }
        }

        private void another(int guest, int pick) {
            if (pick < 35) {
                due("most()", x.most(), model.most());
            } else if (pick < 38) {
                due("least()", x.least(), model.least());
            } else if (pick < 40) {
                int what = near(0, 1);
                due("hire(" + what + ")", x.hire(what), model.hire(what));
            } else if (pick < 42) {
                due("ends()", x.ends(), model.ends());
            } else if (pick < 45) {
                int tenths = near(0, 10);
                int what = near(0, 1);
                due("odds(" + guest + ", " + tenths + ", " + what + ")", x.odds(guest, tenths, what),
                        model.odds(guest, tenths, what));
            } else if (pick < 48) {
                int others = near(0, random.nextInt(2) == 0 ? 16 : 6);
                boolean goes = random.nextBoolean();
                due("see(" + guest + ", " + others + ", " + goes + ")", x.see(guest, others, goes),
                        model.see(guest, others, goes));
            } else if (pick < 50) {
                int times = near(1, 60);
                int seed = random.nextInt(8) == 0 ? random.nextInt() : random.nextInt() >>> 1;
                int what = near(0, 2);
                due("nights(" + times + ", " + seed + ", " + what + ")", x.nights(times, seed, what),
                        model.nights(times, seed, what));
            } else if (pick < 56) {
                int what = near(0, 9);
                due("count(" + what + ")", x.count(what), model.count(what));
            } else {
                seldom();
            }
        }

        private void seldom() {
            switch (random.nextInt(16)) {
                case 0:
                    due("forget()", x.forget(), model.forget());
                    break;
                case 1: case 2: case 3:
                    due("image()", x.image(), model.image());
                    break;
                case 4: case 5: case 6:
                    due("restore()", x.restore(), model.restore());
                    break;
                case 7: case 8: case 9: case 10:
                    due("digest()", x.digest(), model.digest());
                    break;
                case 11:
                    scribble();
                    break;
                case 12: case 13:
                    readOne();
                    break;
                default:
                    int code = near(32, 126);
                    due("letter(" + code + ")", x.letter(code), model.letter(code));
                    break;
            }
        }
    }

    public static void main(String[] args) {
        int calls = 0;
        for (int number = 1; number <= RUNS; number++) {
            Run run = new Run(number);
            if (number % 8 != 0) {
                run.readOne();
            }
            while (run.call < CALLS - 60) {
                run.one();
            }
            run.due("digest()", run.x.digest(), run.model.digest());
            calls += run.call;
        }
        System.out.println(wrong == 0 ? "the model agrees with " + calls + " calls" : wrong + " answers are not the model's");
        if (wrong != 0) {
            System.exit(1);
        }
    }
}
