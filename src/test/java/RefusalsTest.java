import java.util.ArrayList;
import java.util.List;
import java.util.function.Supplier;
import java.util.function.ToLongFunction;

/**
 * Each refusal in each state that has it, which of several comes first, and that a refused call, and one that only
 * asks, changes nothing: the object is told whole beside one that was never so called.
 */
public final class RefusalsTest extends PartyTest {
    private static final int LOW = Integer.MIN_VALUE, HIGH = Integer.MAX_VALUE;
    private static final String PAGE_OF_36 = "10;g0-,g0-".concat("~".repeat(26));

    private record Call(String name, ToLongFunction<GrangeParty> on, long due) {
    }

    private static final List<Call> calls = new ArrayList<>();

    public static void main(String[] args) {
        withoutParty();
        withParty();
        withAllFull();
        withAllGone();
        withAKeptImage();
        asking();
        end("all refusals are as told");
    }

    private static void refused(long due, String name, ToLongFunction<GrangeParty> on) {
        calls.add(new Call(name, on, due));
    }

    /** All that an object answers, in the end with what its image brings back. */
    private static List<Long> told(GrangeParty x) {
        List<Long> told = new ArrayList<>();
        tell(x, told);
        told.add((long) x.restore());
        tell(x, told);
        told.add((long) x.blank());
        told.add((long) x.forget());
        return told;
    }

    private static void tell(GrangeParty x, List<Long> told) {
        told.add(x.digest());
        told.add((long) x.fault());
        for (int guest = 0; guest < 8; guest++) {
            for (int what = 0; what <= 8; what++) {
                told.add((long) x.guest(guest, what));
            }
        }
        for (int what = 0; what <= 9; what++) {
            told.add((long) x.count(what));
        }
        told.add((long) x.nights(60, 5, 0));
        told.add((long) x.nights(60, 5, 1));
        told.add((long) x.odds(0, 3, 0));
    }

    private static void tryAll(String state, Supplier<GrangeParty> made) {
        List<Long> before = told(made.get());
        GrangeParty all = made.get();
        for (Call call : calls) {
            String name = state + ": " + call.name;
            GrangeParty x = made.get();
            due(name, call.on.applyAsLong(x), call.due);
            due(name + ", again", call.on.applyAsLong(x), call.due);
            due(name + " changes nothing (1: so)", told(x).equals(before) ? 1 : 0, 1);
            due(name + ", behind the others", call.on.applyAsLong(all), call.due);
        }
        due(state + ": all these change nothing (1: so)", told(all).equals(before) ? 1 : 0, 1);
        calls.clear();
    }

    private static void unknownGuests(int guests) {
        for (int guest : new int[] {LOW, -1, guests, HIGH}) {
            refused(UNKNOWN, "guest " + guest, x -> x.guest(guest, 0));
            refused(UNKNOWN, "guest " + guest + ", outside too", x -> x.guest(guest, 9));
            refused(UNKNOWN, "as " + guest, x -> x.as(guest, 0));
            refused(UNKNOWN, "as " + guest + ", outside too", x -> x.as(guest, 5));
            refused(UNKNOWN, "hint " + guest, x -> x.hint(guest));
            refused(UNKNOWN, "back " + guest, x -> x.back(guest));
            refused(UNKNOWN, "turn " + guest, x -> x.turn(guest, 0, 0));
            refused(UNKNOWN, "turn " + guest + ", outside too", x -> x.turn(guest, 5, 10));
            refused(UNKNOWN, "odds " + guest, x -> x.odds(guest, 0, 0));
            refused(UNKNOWN, "odds " + guest + ", tenths outside too", x -> x.odds(guest, 11, 0));
            refused(UNKNOWN, "odds " + guest + ", what outside too", x -> x.odds(guest, 0, 2));
            refused(UNKNOWN, "see " + guest, x -> x.see(guest, 0, true));
            refused(UNKNOWN, "see " + guest + ", outside too", x -> x.see(guest, 17, false));
        }
        for (int some : new int[] {LOW, -1, 0, 1 << guests, 1 << guests | 1, HIGH}) {
            refused(UNKNOWN, "rise " + some, x -> x.rise(some));
        }
    }

    /** What is outside whatever the state is. */
    private static void outside() {
        for (int code : new int[] {LOW, -1, 31, 127, HIGH}) {
            refused(OUTSIDE, "letter " + code, x -> x.letter(code));
        }
        for (int more : new int[] {LOW, -1, 0, 51, HIGH}) {
            refused(OUTSIDE, "feed " + more, x -> x.feed(more));
        }
        for (int what : new int[] {LOW, -1, 2, HIGH}) {
            refused(OUTSIDE, "hire " + what, x -> x.hire(what));
        }
        for (int times : new int[] {LOW, -1, 0, 61, HIGH}) {
            refused(OUTSIDE, "nights " + times, x -> x.nights(times, 0, 0));
        }
        for (int seed : new int[] {LOW, -1}) {
            refused(OUTSIDE, "nights by " + seed, x -> x.nights(1, seed, 0));
        }
        for (int what : new int[] {LOW, -1, 3, HIGH}) {
            refused(OUTSIDE, "nights for " + what, x -> x.nights(1, 0, what));
        }
        for (int what : new int[] {LOW, -1, 10, HIGH}) {
            refused(OUTSIDE, "count " + what, x -> x.count(what));
        }
    }

    /** What is outside of one who is known. */
    private static void outsideOf(int guest) {
        for (int what : new int[] {LOW, -1, 9, HIGH}) {
            refused(OUTSIDE, "guest " + guest + " for " + what, x -> x.guest(guest, what));
        }
        for (int kind : new int[] {LOW, -1, 5, HIGH}) {
            refused(OUTSIDE, "as " + guest + ", " + kind, x -> x.as(guest, kind));
            refused(OUTSIDE, "turn " + guest + " to " + kind, x -> x.turn(guest, kind, 0));
        }
        for (int shy : new int[] {LOW, -1, 10, HIGH}) {
            refused(OUTSIDE, "turn " + guest + " to shy " + shy, x -> x.turn(guest, 0, shy));
        }
        for (int tenths : new int[] {LOW, -1, 11, HIGH}) {
            refused(OUTSIDE, "odds " + guest + " by " + tenths, x -> x.odds(guest, tenths, 0));
        }
        for (int what : new int[] {LOW, -1, 2, HIGH}) {
            refused(OUTSIDE, "odds " + guest + " for " + what, x -> x.odds(guest, 0, what));
        }
        for (int others : new int[] {LOW, -1, 17, HIGH}) {
            refused(OUTSIDE, "see " + guest + " with " + others, x -> x.see(guest, others, true));
        }
    }

    private static void noParty() {
        refused(STATE, "hour", x -> x.hour());
        refused(STATE, "feed 1", x -> x.feed(1));
        refused(STATE, "feed 50", x -> x.feed(50));
        refused(STATE, "most", x -> x.most());
        refused(STATE, "least", x -> x.least());
        refused(STATE, "hire 0", x -> x.hire(0));
        refused(STATE, "hire 1", x -> x.hire(1));
        refused(STATE, "ends", x -> x.ends());
        for (int what = 0; what <= 2; what++) {
            int asked = what;
            refused(STATE, "nights for " + what, x -> x.nights(60, HIGH, asked));
        }
        refused(STATE, "image", x -> x.image());
        refused(STATE, "restore", x -> x.restore());
        refused(STATE, "party", x -> x.party());
    }

    private static void withoutParty() {
        sentence(1, "No PARTY");
        unknownGuests(0);
        outside();
        noParty();
        tryAll("a new object", GrangeParty::new);

        unknownGuests(0);
        outside();
        noParty();
        tryAll("a page of one who comes alone", () -> {
            GrangeParty x = new GrangeParty();
            write(x, "10;g0-");
            return x;
        });

        unknownGuests(0);
        outside();
        noParty();
        refused(FULL, "letter 32", x -> x.letter(32));
        refused(FULL, "letter 126", x -> x.letter(126));
        tryAll("a full page", () -> {
            GrangeParty x = new GrangeParty();
            write(x, PAGE_OF_36);
            return x;
        });
    }

    private static void withParty() {
        sentence(5, "Refusals, of several the first as told by each call; they change nothing");
        unknownGuests(2);
        outside();
        outsideOf(0);
        outsideOf(1);
        refused(STATE, "party", x -> x.party());
        refused(STATE, "rise of one too shy", x -> x.rise(1));
        refused(STATE, "rise without a friend", x -> x.rise(2));
        refused(STATE, "rise of both", x -> x.rise(3));
        refused(STATE, "back of one who is here", x -> x.back(0));
        refused(STATE, "back of the other", x -> x.back(1));
        refused(STATE, "restore", x -> x.restore());
        refused(FULL, "feed to 100", x -> x.feed(50));
        tryAll("two guests", () -> made("50;h3-,g00"));
    }

    private static GrangeParty fullOfAll() {
        GrangeParty x = made("99;g9-,c80,h71,p6-,k53,g44,c35,h2-");
        x.rise(8);
        for (int i = 0; i < 6; i++) {
            x.see(i, 8 - i, i % 2 == 0);
        }
        x.image();
        x.hint(0);
        write(x, PAGE_OF_36);
        return x;
    }

    private static void withAllFull() {
        sentence(19, "FULL");
        unknownGuests(8);
        outside();
        outsideOf(0);
        outsideOf(7);
        refused(FULL, "letter 32", x -> x.letter(32));
        refused(FULL, "letter 126", x -> x.letter(126));
        refused(FULL, "feed 1", x -> x.feed(1));
        refused(FULL, "feed 50", x -> x.feed(50));
        refused(FULL, "see 0", x -> x.see(0, 0, true));
        refused(FULL, "see 7", x -> x.see(7, 16, false));
        refused(FULL, "see of one who is gone", x -> x.see(3, 16, false));
        refused(STATE, "party", x -> x.party());
        goneOne(3);
        refused(STATE, "rise of one gone", x -> x.rise(8));
        refused(STATE, "rise of a cough and one gone", x -> x.rise(24));
        refused(UNKNOWN, "rise of one gone, and of nobody", x -> x.rise(264));
        tryAll("eight guests, all full", RefusalsTest::fullOfAll);
    }

    /** What one who is gone is refused, outside ahead of it. */
    private static void goneOne(int guest) {
        refused(STATE, "hint to one gone", x -> x.hint(guest));
        refused(STATE, "odds of one gone", x -> x.odds(guest, 0, 0));
        refused(STATE, "odds of one gone, below", x -> x.odds(guest, 10, 1));
        refused(OUTSIDE, "odds of one gone, tenths outside too", x -> x.odds(guest, 11, 0));
        refused(OUTSIDE, "odds of one gone, what outside too", x -> x.odds(guest, 0, 2));
        refused(STATE, "rise of one gone", x -> x.rise(1 << guest));
    }

    private static void withAllGone() {
        sentence(8, "STATE: one of them is GONE");
        unknownGuests(3);
        outside();
        outsideOf(2);
        for (int guest = 0; guest < 3; guest++) {
            goneOne(guest);
        }
        refused(STATE, "rise of all", x -> x.rise(7));
        refused(STATE, "party", x -> x.party());
        refused(STATE, "restore", x -> x.restore());
        tryAll("all are gone", () -> {
            GrangeParty x = made("07;p9-,k90,g3-");
            x.rise(7);
            write(x, "10;");
            return x;
        });
    }

    private static void withAKeptImage() {
        sentence(23, "or a PARTY was read since");
        refused(STATE, "restore", x -> x.restore());
        refused(STATE, "party", x -> x.party());
        refused(STATE, "back", x -> x.back(0));
        tryAll("an image of a party before", () -> {
            GrangeParty x = made("07;p9-,k90,g3-");
            x.hour();
            x.image();
            write(x, "08;p9-,k90,g3-");
            x.party();
            return x;
        });
    }

    private static void asking() {
        sentence(14, "what would be");
        GrangeParty x = fullOfAll();
        List<Call> asked = new ArrayList<>();
        asked.add(new Call("most", y -> y.most(), x.most()));
        asked.add(new Call("least", y -> y.least(), x.least()));
        asked.add(new Call("hire 0", y -> y.hire(0), x.hire(0)));
        asked.add(new Call("hire 1", y -> y.hire(1), x.hire(1)));
        asked.add(new Call("ends", y -> y.ends(), x.ends()));
        asked.add(new Call("fault", y -> y.fault(), x.fault()));
        asked.add(new Call("digest", y -> y.digest(), x.digest()));
        asked.add(new Call("as", y -> y.as(4, 3), 4));
        asked.add(new Call("guest 8", y -> y.guest(0, 8), x.guest(0, 8)));
        for (int what = 0; what <= 2; what++) {
            int one = what;
            asked.add(new Call("nights " + what, y -> y.nights(60, 12, one), x.nights(60, 12, what)));
        }
        for (int tenths = 0; tenths <= 10; tenths++) {
            int one = tenths;
            asked.add(new Call("odds " + tenths, y -> y.odds(4, one, 1), x.odds(4, tenths, 1)));
        }
        calls.addAll(asked);
        tryAll("only asked", RefusalsTest::fullOfAll);
    }
}
