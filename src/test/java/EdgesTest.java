import java.math.BigInteger;
import java.util.ArrayList;
import java.util.List;

/**
 * Each sentence of the promises that names a boundary case: the last value that is let in and the first that is not,
 * the empty and the full, what wraps around. Refusals, their order and that they change nothing: RefusalsTest.
 */
public final class EdgesTest extends PartyTest {
    private static final int LOW = Integer.MIN_VALUE, HIGH = Integer.MAX_VALUE;
    private static final String KINDS = "gchpk";
    private static final String EIGHT = "99;g9-,c80,h71,p62,k53,g44,c35,h26";
    private static final String TEXT_OF_36 = EIGHT + "zz";

    public static void main(String[] args) {
        page();
        texts();
        guests();
        whatIsDone();
        whatWouldBe();
        whatIsSeen();
        whatIsToldOfAll();
        end("all edges are as told");
    }

    private static void page() {
        letterCodes();
        letterFull();
        blankEmptyAndFull();
        faultNone();
        faultFirst();
        faultDigits();
        faultFriends();
        faultBehindEight();
    }

    private static void texts() {
        partyTwoToEight();
        partyIsNone();
        partyFood();
        partyKindsAndShy();
        partyAnotherOne();
    }

    private static void guests() {
        guestNumbers();
        guestWhat();
        guestFriend();
        guestNeeds();
        guestCounts();
        guestShyness();
        guestShynessOfSeveral();
        guestAsk();
        guestAskNone();
        guestHomeByNoHints();
        guestHomeToWhomever();
        guestHomeNone();
        asKinds();
    }

    private static void whatIsDone() {
        riseNames();
        riseGoneOrCannot();
        riseNoLessThanNeeds();
        riseFriend();
        hourFood();
        hourShy();
        hourOneByOne();
        hourNobody();
        hourFull();
        hintZeroAtLeast();
        backFirstAndLast();
        feedBounds();
        feedFull();
        turnBounds();
        turnOfAnyone();
    }

    private static void whatWouldBe() {
        mostNoneAndAll();
        leastNoneAndAll();
        leastOfLike();
        hireNoneAndAll();
        hireAtTheEdge();
        endsAtOnceAndNever();
        endsByHours();
        oddsTenths();
        oddsLowestTerms();
        oddsWhat();
    }

    private static void whatIsSeen() {
        seeOthers();
        seeSixAtMost();
        forgetNoneAndSix();
        nightsBounds();
        nightsSeeds();
        nightsAsIfDone();
        nightsHintToTheGone();
    }

    private static void whatIsToldOfAll() {
        imageLatest();
        imageKeeps();
        restoreNone();
        restoreSinceRead();
        countBounds();
        countEmptyAndFull();
        digestWithoutParty();
        digestWraps();
    }

    // ---- the party

    private static void letterCodes() {
        sentence(2, "OUTSIDE: code (32 to 126)");
        for (int code = -300; code <= 400; code++) {
            GrangeParty x = new GrangeParty();
            boolean in = code >= 32 && code <= 126;
            due("letter " + code, x.letter(code), in ? 1 : OUTSIDE);
            due("the page behind " + code, x.count(8), in ? 1 : 0);
        }
        for (int code : new int[] {LOW, LOW + 48, -65536 + 48, 65536 + 48, 1 << 24 | 48, HIGH}) {
            due("letter " + code, new GrangeParty().letter(code), OUTSIDE);
        }
    }

    private static void letterFull() {
        sentence(2, "FULL: above 36");
        GrangeParty x = new GrangeParty();
        for (int n = 1; n <= 36; n++) {
            due("letter " + n, x.letter(31 + n), n);
        }
        due("letter 37", x.letter(65), FULL);
        due("letter 37, again", x.letter(66), FULL);
        due("the page", x.count(8), 36);
        due("behind 36 it is empty", x.blank(), 36);
        due("letter 1, anew", x.letter(65), 1);
    }

    private static void blankEmptyAndFull() {
        sentence(3, "THE PAGE is empty: how many letters it had");
        GrangeParty x = new GrangeParty();
        due("empty at first", x.blank(), 0);
        x.letter(65);
        due("one", x.blank(), 1);
        due("none behind that", x.blank(), 0);
        write(x, TEXT_OF_36);
        due("full", x.blank(), 36);
        due("none behind the full", x.blank(), 0);
        due("count", x.count(8), 0);
        due("digest tells no letters", x.digest(), mixed(0, 0, 0, 0, 0, 0, 0, 0, 0, 0));
    }

    private static void faultNone() {
        sentence(4, "how many letters it has, if there is none");
        GrangeParty x = new GrangeParty();
        due("an empty page", x.fault(), 0);
        for (int i = 0; i < EIGHT.length(); i++) {
            x.letter(EIGHT.charAt(i));
            due("the first " + (i + 1) + " letters", x.fault(), i + 1);
        }
        due("the page stays", x.blank(), 34);
        write(x, "10;p0-");
        due("one guest can go on", x.fault(), 6);
        due("and is no party", x.party(), STATE);
        x.letter(',');
        due("a comma can go on", x.fault(), 7);
        due("and is no party", x.party(), STATE);
    }

    private static void faultFirst() {
        sentence(4, "the first letter of THE PAGE that no PARTY has there");
        for (int place = 0; place < 34; place++) {
            GrangeParty x = new GrangeParty();
            write(x, EIGHT.substring(0, place) + "~" + EIGHT.substring(place + 1));
            due("spoilt at " + place, x.fault(), place);
            due("no party", x.party(), STATE);
            x.blank();
            write(x, EIGHT.substring(0, place) + "~".repeat(36 - place));
            due("spoilt from " + place, x.fault(), place);
        }
    }

    private static int faultOf(String text) {
        GrangeParty x = new GrangeParty();
        write(x, text);
        return x.fault();
    }

    private static void faultDigits() {
        sentence(4, "two digits, FOOD; a digit, how SHY he is (0 to 9)");
        int[] places = {0, 1, 4, 8, 32};
        for (int place : places) {
            String ahead = EIGHT.substring(0, place);
            due("ahead of 0 at " + place, faultOf(ahead + "/"), place);
            due("0 at " + place, faultOf(ahead + "0"), place + 1);
            due("9 at " + place, faultOf(ahead + "9"), place + 1);
            due("behind 9 at " + place, faultOf(ahead + ":"), place);
        }
    }

    private static void faultFriends() {
        sentence(4, "the number of a GUEST ahead of him, or \"-\" (none)");
        for (int guest = 0; guest < 8; guest++) {
            int place = 5 + 4 * guest;
            String ahead = EIGHT.substring(0, place);
            for (int friend = 0; friend <= 9; friend++) {
                due("friend " + friend + " of " + guest, faultOf(ahead + friend), friend < guest ? place + 1 : place);
            }
            due("no friend of " + guest, faultOf(ahead + "-"), place + 1);
            due("ahead of - for " + guest, faultOf(ahead + ","), place);
            due("behind - for " + guest, faultOf(ahead + "."), place);
            due("ahead of 0 for " + guest, faultOf(ahead + "/"), place);
        }
    }

    private static void faultBehindEight() {
        sentence(4, "two to eight GUESTS");
        for (int code = 32; code <= 126; code++) {
            due("behind eight " + code, faultOf(EIGHT + (char) code), 34);
        }
        due("behind seven", faultOf(EIGHT.substring(0, 30) + ","), 31);
        due("behind seven, no comma", faultOf(EIGHT.substring(0, 30) + ";"), 30);
        due("a ninth begun", faultOf(EIGHT + ",g"), 34);
    }

    private static void partyTwoToEight() {
        sentence(5, "two to eight GUESTS (numbered from 0)");
        for (int guests = 0; guests <= 8; guests++) {
            String text = EIGHT.substring(0, guests == 0 ? 3 : 2 + 4 * guests);
            GrangeParty x = new GrangeParty();
            write(x, text);
            due(text, x.party(), guests < 2 ? STATE : guests);
            due("guests", x.count(0), guests < 2 ? 0 : guests);
            due("the page", x.count(8), guests < 2 ? text.length() : 0);
        }
        GrangeParty x = new GrangeParty();
        write(x, EIGHT + ",");
        due("eight and a comma", x.party(), STATE);
        x.letter('g');
        due("a ninth begun", x.party(), STATE);
        due("its page stays", x.count(8), 36);
    }

    private static void partyIsNone() {
        sentence(5, "STATE: it is none");
        GrangeParty x = new GrangeParty();
        due("an empty page", x.party(), STATE);
        String text = "10;g0-,p10";
        for (int i = 0; i < text.length(); i++) {
            due("the first " + i + " letters", x.party(), STATE);
            x.letter(text.charAt(i));
        }
        due("never read", x.count(9), 0);
        due("all letters", x.party(), 2);
        due("the page is empty then", x.party(), STATE);
        due("read once", x.count(9), 1);
        write(x, text + ",");
        due("a comma behind", x.party(), STATE);
        due("its page stays", x.blank(), 11);
        write(x, "1;g0-,p10");
        due("one digit", x.party(), STATE);
        x.blank();
        write(x, "10;g0-,G0-");
        due("a capital", x.party(), STATE);
        x.blank();
        write(x, "10;g0-,g01");
        due("himself", x.party(), STATE);
    }

    private static void partyFood() {
        sentence(5, "two digits, FOOD (its tens, its ones)");
        GrangeParty x = new GrangeParty();
        for (int food = 0; food <= 99; food++) {
            if (food % 40 == 0) {
                // No object is asked for more than 512 calls.
                x = new GrangeParty();
            }
            write(x, "" + food / 10 + food % 10 + ";g9-,g9-");
            x.party();
            due("food " + food, x.count(2), food);
        }
    }

    private static void partyKindsAndShy() {
        sentence(5, "a letter, the KIND, a digit, how SHY he is (0 to 9)");
        for (int kind = 0; kind < 5; kind++) {
            for (int shy = 0; shy <= 9; shy++) {
                GrangeParty x = made("10;g0-," + KINDS.charAt(kind) + shy + "0");
                due("kind", x.guest(1, 0), kind);
                due("shy", x.guest(1, 1), shy);
            }
        }
        for (int code = 32; code <= 126; code++) {
            due("kind " + code, faultOf("10;" + (char) code), KINDS.indexOf(code) >= 0 ? 4 : 3);
        }
    }

    private static void partyAnotherOne() {
        sentence(5, "another one is gone, with all that was");
        GrangeParty x = made("50;p9-,p9-,p9-");
        x.see(1, 5, false);
        x.image();
        x.hour();
        x.turn(2, 2, 3);
        write(x, "00;g1-,c2-");
        due("read", x.party(), 2);
        int[] due = {2, 2, 0, 0, 3, 0, 0, 0, 0, 2};
        for (int what = 0; what <= 9; what++) {
            due("count " + what, x.count(what), due[what]);
        }
        due("nothing seen", x.guest(1, 6), 1023);
        due("no third", x.guest(2, 0), UNKNOWN);
        due("no image", x.restore(), STATE);
        write(x, EIGHT);
        due("more guests", x.party(), 8);
        due("all here", x.count(1), 8);
    }

    // ---- guests

    private static void guestNumbers() {
        sentence(6, "UNKNOWN");
        for (int guests = 2; guests <= 8; guests++) {
            GrangeParty x = made(EIGHT.substring(0, 2 + 4 * guests));
            due("the first", x.guest(0, 1), 9);
            due("the last", x.guest(guests - 1, 1), 10 - guests);
            for (int guest : new int[] {LOW, -1, guests, guests + 1, 32, 256, HIGH}) {
                due("guest " + guest + " of " + guests, x.guest(guest, 0), UNKNOWN);
                due("as " + guest + " of " + guests, x.as(guest, 0), UNKNOWN);
                due("hint " + guest + " of " + guests, x.hint(guest), UNKNOWN);
                due("back " + guest + " of " + guests, x.back(guest), UNKNOWN);
                due("turn " + guest + " of " + guests, x.turn(guest, 0, 0), UNKNOWN);
                due("odds " + guest + " of " + guests, x.odds(guest, 0, 0), UNKNOWN);
                due("see " + guest + " of " + guests, x.see(guest, 0, true), UNKNOWN);
            }
        }
    }

    private static void guestWhat() {
        sentence(6, "what = 0 KIND .. 8 HOME; OUTSIDE");
        GrangeParty x = made("10;h3-,k20");
        // The host needs 5, and has a cough, who counts as 2: three hints to him bring both home.
        int[] due = {4, 2, 0, 1, 0, 2, 1023, 0, 3};
        for (int what = 0; what <= 8; what++) {
            due("what " + what, x.guest(1, what), due[what]);
        }
        for (int what : new int[] {LOW, -1, 9, 10, 256, HIGH}) {
            due("what " + what, x.guest(1, what), OUTSIDE);
        }
    }

    private static void guestFriend() {
        sentence(6, "2 FRIEND (NONE)");
        GrangeParty x = made("10;g0-,g00,g0-,g00,g03,g04,g0-,g06");
        int[] due = {NONE, 0, NONE, 0, 3, 4, NONE, 6};
        for (int guest = 0; guest < 8; guest++) {
            due("friend of " + guest, x.guest(guest, 2), due[guest]);
        }
    }

    private static int needs(int kind, int shy) {
        int[] needs = {shy, shy / 2, shy + 2, 0, 0};
        return needs[kind];
    }

    private static void guestNeeds() {
        sentence(6, "a CLEVER one half of that, rounded down; a HOST 2 more; a PALE one none");
        GrangeParty x = made("10;g0-,g0-");
        int[] clever = {0, 0, 1, 1, 2, 2, 3, 3, 4, 4};
        for (int shy = 0; shy <= 9; shy++) {
            for (int kind = 0; kind < 5; kind++) {
                x.turn(1, kind, shy);
                due("kind " + kind + " shy " + shy, x.guest(1, 4), needs(kind, shy));
            }
            due("halves of the test itself", needs(1, shy), clever[shy]);
        }
    }

    private static void guestCounts() {
        sentence(6, "Each one COUNTS as 1 for others, a COUGH as 2");
        GrangeParty x = made("10;g9-,c9-,h9-,p9-,k9-");
        for (int guest = 0; guest < 5; guest++) {
            due("counts " + guest, x.guest(guest, 5), guest == 4 ? 2 : 1);
        }
        x.rise(24);
        due("pale, gone", x.guest(3, 5), 1);
        due("cough, gone", x.guest(4, 5), 2);
    }

    /** The shyness, as bits, of a kind that goes (or does not) with so many others. */
    private static int shynessSeen(int kind, int others, boolean goes) {
        int bits = 0;
        for (int shy = 0; shy <= 9; shy++) {
            bits |= (others >= needs(kind, shy)) == goes ? 1 << shy : 0;
        }
        return bits;
    }

    private static void guestShyness() {
        sentence(6, "SHYNESS (0 to 9) he can have, KIND as it is: as bits");
        for (int kind = 0; kind < 5; kind++) {
            GrangeParty x = made("10;g0-," + KINDS.charAt(kind) + "5-");
            due("nothing seen", x.guest(1, 6), 1023);
            for (int others = 0; others <= 16; others++) {
                for (int goes = 0; goes <= 1; goes++) {
                    x.see(1, others, goes == 1);
                    due(KINDS.charAt(kind) + " with " + others + ", goes " + goes, x.guest(1, 6),
                            shynessSeen(kind, others, goes == 1));
                    due("of another nothing", x.guest(0, 6), 1023);
                    x.forget();
                }
            }
        }
        GrangeParty x = made("10;g0-,h5-");
        x.see(1, 1, true);
        due("a host with one never goes", x.guest(1, 6), 0);
        x.forget();
        x.see(1, 2, true);
        due("a host with two, at the least shy", x.guest(1, 6), 1);
        x.forget();
        x.see(1, 10, false);
        due("a host not with ten, at the most shy", x.guest(1, 6), 512);
        x.forget();
        x.see(1, 11, false);
        due("a host with eleven always goes", x.guest(1, 6), 0);
    }

    private static void guestShynessOfSeveral() {
        sentence(6, "so that all that is SEEN of him is so");
        GrangeParty x = made("10;g0-,g0-");
        x.see(0, 9, true);
        x.see(0, 0, false);
        due("wide", x.guest(0, 6), 1022);
        x.see(0, 5, true);
        x.see(0, 4, false);
        due("just one", x.guest(0, 6), 32);
        x.see(0, 4, true);
        due("none", x.guest(0, 6), 0);
        x.see(1, 0, true);
        due("of the other, the sixth", x.guest(1, 6), 1);
        x.turn(1, 1, 9);
        due("as a clever one", x.guest(1, 6), 3);
        x.turn(1, 2, 9);
        due("as a host", x.guest(1, 6), 0);
        x.turn(1, 4, 9);
        due("as a cough", x.guest(1, 6), 1023);
    }

    private static int askFor(int kind, int shyness) {
        int ask = NONE;
        int fewest = 11;
        for (int others = 0; others <= 16 && shyness != 0; others++) {
            int would = Integer.bitCount(shyness & shynessSeen(kind, others, true));
            int left = Math.max(would, Integer.bitCount(shyness) - would);
            if (left < fewest) {
                fewest = left;
                ask = others;
            }
        }
        return ask;
    }

    private static void guestAsk() {
        sentence(6, "fewest of these are left at worst: of like ones the least");
        for (int kind = 0; kind < 5; kind++) {
            for (int low = -1; low <= 12; low++) {
                for (int high = Math.max(low, 0); high <= 12; high++) {
                    GrangeParty x = made("10;g0-," + KINDS.charAt(kind) + "0-");
                    int shyness = shynessSeen(kind, high, true);
                    x.see(1, high, true);
                    if (low >= 0) {
                        x.see(1, low, false);
                        shyness &= shynessSeen(kind, low, false);
                    }
                    due(KINDS.charAt(kind) + " above " + low + " to " + high, x.guest(1, 7), askFor(kind, shyness));
                }
            }
        }
        // By hand: all ten are halved by 4; a clever one's are 4 and 6 by 1; a host's are halved by 6.
        GrangeParty x = made("10;g0-,c0-,h0-,p0-,k0-");
        int[] due = {4, 1, 6, 0, 0};
        for (int guest = 0; guest < 5; guest++) {
            due("nothing seen of " + guest, x.guest(guest, 7), due[guest]);
        }
        x.see(2, 10, false);
        due("one is left: nothing to ask", x.guest(2, 7), 0);
    }

    private static void guestAskNone() {
        sentence(6, "none, if there are none; 7 ASK (NONE)");
        GrangeParty x = made("10;g0-,p0-");
        x.see(0, 9, false);
        due("shyer than nine", x.guest(0, 6), 0);
        due("ask", x.guest(0, 7), NONE);
        x.see(1, 0, false);
        due("a pale one stays", x.guest(1, 7), NONE);
        x.forget();
        due("forgotten", x.guest(0, 7), 4);
        x.see(0, 8, false);
        due("just nine", x.guest(0, 7), 0);
    }

    private static void guestHomeByNoHints() {
        sentence(6, "by how few HINTS: 0");
        GrangeParty x = made("10;g1-,g1-,g3-");
        due("with another, just enough", x.guest(0, 8), 0);
        due("one short", x.guest(2, 8), 1);
        x.hint(2);
        due("by a hint", x.guest(2, 8), 0);
        x.rise(7);
        due("gone", x.guest(2, 8), NONE);
        x.back(2);
        due("back, two are gone", x.guest(2, 8), 0);
        x = made("10;g9-,h9-");
        due("nine, by himself", x.guest(0, 8), 9);
        x = made("10;c9-,h9-");
        due("a clever nine, by himself to one", x.guest(0, 8), 8);
        x = made("10;c9-,p0-,h9-");
        due("a clever nine with a pale one, to three", x.guest(0, 8), 6);
    }

    private static void guestHomeToWhomever() {
        sentence(6, "to whomever, he can be among some who RISE together then");
        // Each is the friend of the next: guest n goes with all ahead of him.
        GrangeParty x = made("10;h9-,h90,h91,h92,h93,h94");
        int[] hosts = {27, 27, 27, 32, 35, 36};
        for (int guest = 0; guest < 6; guest++) {
            due("hosts " + guest, x.guest(guest, 8), hosts[guest]);
        }
        x = made("10;g9-,g90,g91,g92,g93,g94,g95,g96");
        int[] guests = {9, 16, 16, 16, 16, 16, 16, 16};
        for (int guest = 0; guest < 8; guest++) {
            due("guests " + guest, x.guest(guest, 8), guests[guest]);
        }
        due("nobody was given one", x.count(4), 72);
    }

    private static void guestHomeNone() {
        sentence(6, "8 HOME (NONE; he is GONE: NONE)");
        GrangeParty x = made("10;h0-,p00");
        due("a host needs two", x.guest(0, 8), NONE);
        due("his friend stays too", x.guest(1, 8), NONE);
        x = made("10;h0-,h0-,g0-");
        due("two others", x.guest(0, 8), 0);
        x.rise(7);
        for (int guest = 0; guest < 3; guest++) {
            due("gone " + guest, x.guest(guest, 8), NONE);
        }
        x = made("10;h0-,k0-");
        due("a cough is two", x.guest(0, 8), 0);
        x.turn(1, 3, 0);
        due("a pale one is one", x.guest(0, 8), NONE);
    }

    private static void asKinds() {
        sentence(7, "his own number (not that of the KIND); NONE: he is none such; OUTSIDE");
        GrangeParty x = made("10;k0-,p0-,h0-,c0-,g0-");
        String[] such = {"gpk", "gp", "gh", "gc", "g"};
        for (int guest = 0; guest < 5; guest++) {
            for (int kind = 0; kind < 5; kind++) {
                boolean is = such[guest].indexOf(KINDS.charAt(kind)) >= 0;
                due("as " + guest + " " + kind, x.as(guest, kind), is ? guest : NONE);
            }
            for (int kind : new int[] {LOW, -1, 5, 6, 256, HIGH}) {
                due("as " + guest + " " + kind, x.as(guest, kind), OUTSIDE);
            }
        }
        x.rise(1);
        due("gone, a cough still", x.as(0, 4), 0);
    }

    // ---- what is done

    private static void riseNames() {
        sentence(8, "UNKNOWN: some (none of these, or a bit that names nobody)");
        for (int guests = 2; guests <= 8; guests++) {
            GrangeParty x = made("10;p0-,p0-,p0-,p0-,p0-,p0-,p0-,p0-".substring(0, 2 + 4 * guests));
            due("none", x.rise(0), UNKNOWN);
            for (int bit = guests; bit < 32; bit++) {
                due("bit " + bit, x.rise(1 << bit), UNKNOWN);
                due("bit " + bit + " and the first", x.rise(1 << bit | 1), UNKNOWN);
            }
            due("all bits", x.rise(-1), UNKNOWN);
            due("all but the sign", x.rise(HIGH), UNKNOWN);
            due("the last", x.rise(1 << guests - 1), 1);
            due("all others", x.rise((1 << guests - 1) - 1), guests - 1);
            due("none, with all gone", x.rise(0), UNKNOWN);
        }
    }

    private static void riseGoneOrCannot() {
        sentence(8, "STATE: one of them is GONE, or they cannot");
        GrangeParty x = made("10;p0-,p0-,g1-,h9-");
        due("one", x.rise(1), 1);
        due("again", x.rise(1), STATE);
        due("with one who could", x.rise(3), STATE);
        due("he could by himself", x.rise(2), 1);
        due("with one who cannot", x.rise(12), STATE);
        due("without him", x.rise(4), 1);
        due("who cannot", x.rise(8), STATE);
        due("here", x.count(1), 1);
    }

    private static void riseNoLessThanNeeds() {
        sentence(8, "together, is no less than he NEEDS");
        String eight = ",p0-,p0-,p0-,p0-,p0-,p0-,k0-";
        for (int kind = 0; kind < 3; kind++) {
            for (int shy = 0; shy <= 9; shy++) {
                for (int others = 0; others <= 6; others++) {
                    String text = "10;" + KINDS.charAt(kind) + shy + "-" + eight;
                    String call = text + " with " + others;
                    int company = (1 << others + 1) - 1;
                    boolean can = others >= needs(kind, shy);
                    boolean canByCough = others + 2 >= needs(kind, shy);
                    due(call, made(text).rise(company), can ? others + 1 : STATE);
                    due(call + " and a cough", made(text).rise(company | 128), canByCough ? others + 2 : STATE);
                    GrangeParty x = made(text);
                    x.rise(128);
                    due(call + " and a cough who is gone", x.rise(company), canByCough ? others + 1 : STATE);
                    x = made(text);
                    x.rise(company & ~1);
                    due(call + ", all of them gone", x.rise(1), can ? 1 : STATE);
                }
            }
        }
    }

    private static void riseFriend() {
        sentence(8, "his FRIEND (if he has one) is one of these, or GONE");
        String text = "10;p0-,p0-,p00,p02";
        due("no friend", made(text).rise(2), 1);
        due("his friend stays", made(text).rise(4), STATE);
        due("with another", made(text).rise(6), STATE);
        due("his friend is one of these", made(text).rise(5), 2);
        due("his friend's friend stays", made(text).rise(12), STATE);
        due("all three", made(text).rise(13), 3);
        GrangeParty x = made(text);
        x.rise(1);
        due("his friend is gone", x.rise(4), 1);
        x.back(0);
        due("his friend's friend is back", x.rise(8), 1);
        x.back(2);
        due("and his own is here again", x.rise(4), STATE);
    }

    private static void hourFood() {
        sentence(9, "each one who is HERE eats 1 FOOD (all together, as long as there is any)");
        int[] food = {0, 1, 2, 3, 4, 5, 98, 99};
        int[] left = {0, 0, 0, 0, 1, 2, 95, 96};
        for (int i = 0; i < food.length; i++) {
            GrangeParty x = made("" + food[i] / 10 + food[i] % 10 + ";h9-,h9-,h9-");
            due("nobody goes", x.hour(), 0);
            due("of " + food[i] + " for three", x.count(2), left[i]);
            due("hours", x.count(3), 1);
        }
        GrangeParty x = made("10;h9-,p0-,p0-");
        x.rise(6);
        x.hour();
        due("only who is here eats", x.count(2), 9);
    }

    private static void hourShy() {
        sentence(9, "if none is left then (though it was just enough), each one who is HERE is 1 less SHY (0 at least)");
        int[] food = {0, 2, 3, 4};
        int[] shy = {8, 8, 8, 9};
        for (int i = 0; i < food.length; i++) {
            GrangeParty x = made("0" + food[i] + ";h9-,h1-,h0-");
            x.hour();
            due("the first, of " + food[i], x.guest(0, 1), shy[i]);
            due("the second, of " + food[i], x.guest(1, 1), shy[i] - 8);
            due("the third, of " + food[i], x.guest(2, 1), 0);
        }
        GrangeParty x = made("00;h9-,p9-,p0-");
        x.rise(2);
        x.hour();
        due("here", x.guest(0, 1), 8);
        due("gone", x.guest(1, 1), 9);
        x = made("00;h9-,h9-");
        for (int i = 1; i <= 12; i++) {
            due("nobody goes", x.hour(), 0);
            due("0 at least", x.guest(0, 1), Math.max(0, 9 - i));
        }
    }

    private static void hourOneByOne() {
        sentence(9, "they then go one by one, till none can: how many go");
        due("none can", made("99;g1-,g1-").hour(), 0);
        due("less shy ahead of that", made("02;g1-,g1-").hour(), 2);
        due("all eight, from the last", made("99;g7-,g6-,g5-,g4-,g3-,g2-,g1-,g0-").hour(), 8);
        due("all but one", made("99;g8-,g6-,g5-,g4-,g3-,g2-,g1-,g0-").hour(), 7);
        due("a friend first", made("99;g1-,p00,p0-").hour(), 3);
        due("a friend who stays", made("99;g2-,p00,p0-").hour(), 1);
        due("a cough is two", made("99;g2-,k0-").hour(), 2);
        due("two could rise together, none by himself", made("99;g1-,g1-,h0-").hour(), 0);
    }

    private static void hourNobody() {
        sentence(9, "each one who is HERE eats: nobody is");
        GrangeParty x = made("05;p9-,p9-");
        x.rise(3);
        due("nobody goes", x.hour(), 0);
        due("nobody eats", x.count(2), 5);
        due("an hour goes by", x.count(3), 1);
        due("nobody is less shy", x.guest(0, 1), 9);
    }

    private static void hourFull() {
        sentence(9, "FULL: 999 did");
        // Above the 512 calls that an object is promised for: the one way to come to that bound.
        GrangeParty x = made("50;h9-,p0-");
        for (int hour = 1; hour <= 999; hour++) {
            due("hour " + hour, x.hour(), hour == 1 ? 1 : 0);
            due("hours", x.count(3), hour);
        }
        due("hour 1000", x.hour(), FULL);
        due("hours", x.count(3), 999);
        due("image", x.image(), 999);
        due("restore", x.restore(), 999);
        due("hour 1000, restored", x.hour(), FULL);
        write(x, "50;h9-,h9-");
        due("party", x.party(), 2);
        due("hour 1", x.hour(), 0);
    }

    private static void hintZeroAtLeast() {
        sentence(10, "Who is given a HINT is 1 less SHY (0 at least)");
        for (int kind = 0; kind < 5; kind++) {
            GrangeParty x = made("10;" + KINDS.charAt(kind) + "9-,g9-");
            for (int i = 1; i <= 12; i++) {
                due(KINDS.charAt(kind) + " hint " + i, x.hint(0), Math.max(0, 9 - i));
            }
            due("shy then", x.guest(0, 1), 0);
            due("no other", x.guest(1, 1), 9);
        }
    }

    private static void backFirstAndLast() {
        sentence(11, "how many are HERE; STATE: he is HERE");
        GrangeParty x = made("10;p0-,p0-,p0-,p0-,p0-,p0-,p0-,p9-");
        due("all here", x.back(7), STATE);
        x.rise(255);
        for (int guest = 7; guest >= 0; guest--) {
            due("back " + guest, x.back(guest), 8 - guest);
            due("again " + guest, x.back(guest), STATE);
        }
        due("all are", x.count(1), 8);
        due("as shy as he went", x.guest(7, 1), 9);
    }

    private static void feedBounds() {
        sentence(12, "OUTSIDE: more (1 to 50)");
        for (int more = -60; more <= 120; more++) {
            GrangeParty x = made("00;g0-,g0-");
            boolean in = more >= 1 && more <= 50;
            due("feed " + more, x.feed(more), in ? more : OUTSIDE);
            due("food", x.count(2), in ? more : 0);
        }
        for (int more : new int[] {LOW, LOW + 1, HIGH - 1, HIGH}) {
            due("feed " + more, made("99;g0-,g0-").feed(more), OUTSIDE);
        }
    }

    private static void feedFull() {
        sentence(12, "FULL: there would be more than 99");
        for (int more = 1; more <= 50; more++) {
            int most = 99 - more;
            due("to 99 by " + more, made("" + most / 10 + most % 10 + ";g0-,g0-").feed(more), 99);
            most++;
            GrangeParty x = made("" + most / 10 + most % 10 + ";g0-,g0-");
            due("to 100 by " + more, x.feed(more), FULL);
            due("food", x.count(2), most);
        }
    }

    private static void turnBounds() {
        sentence(13, "OUTSIDE: kind (0 to 4), shy (0 to 9)");
        GrangeParty x = made("10;g0-,c7-");
        int was = 1;
        for (int kind = -1; kind <= 5; kind++) {
            for (int shy = -1; shy <= 10; shy++) {
                boolean in = kind >= 0 && kind <= 4 && shy >= 0 && shy <= 9;
                due("turn to " + kind + ", " + shy, x.turn(1, kind, shy), in ? was : OUTSIDE);
                if (in) {
                    was = kind;
                    due("kind", x.guest(1, 0), kind);
                    due("shy", x.guest(1, 1), shy);
                }
            }
        }
        for (int far : new int[] {LOW, -2, 256, HIGH}) {
            due("kind " + far, x.turn(1, far, 0), OUTSIDE);
            due("shy " + far, x.turn(1, 0, far), OUTSIDE);
        }
        due("kind at last", x.guest(1, 0), 4);
        due("shy at last", x.guest(1, 1), 9);
    }

    private static void turnOfAnyone() {
        sentence(13, "One is found to be otherwise: of which KIND he was");
        GrangeParty x = made("10;p3-,g20");
        x.rise(1);
        due("of one who is gone", x.turn(0, 4, 9), 3);
        due("still gone", x.guest(0, 3), 0);
        due("counts as two", x.count(5), 2);
        due("so the other can", x.count(6), 1);
        due("friend stays", x.guest(1, 2), 0);
        due("the same kind, the same shyness", x.turn(1, 0, 2), 0);
    }

    // ---- what would be

    private static void mostNoneAndAll() {
        sentence(14, "all who can be among some who RISE together now, as bits");
        due("none", made("10;g2-,g2-").most(), 0);
        due("just enough", made("10;g1-,g1-").most(), 3);
        due("all eight", made("10;g7-,g7-,g7-,g7-,g7-,g7-,g7-,g7-").most(), 255);
        due("one too shy, so none", made("10;g7-,g7-,g7-,g8-,g7-,g7-,g7-,g7-").most(), 0);
        due("a cough among eight", made("10;g8-,g8-,g8-,g8-,k9-,g8-,g8-,h6-").most(), 255);
        due("one after another falls out", made("10;g8-,g7-,g6-,g5-,g4-,g3-,g2-,g1-").most(), 0);
        GrangeParty x = made("10;p0-,p0-");
        due("two", x.most(), 3);
        x.rise(1);
        due("who is gone is none of them", x.most(), 2);
        x.rise(2);
        due("nobody is here", x.most(), 0);
    }

    private static void leastNoneAndAll() {
        sentence(15, "the fewest who can (one at least), as bits (0: none can)");
        due("none", made("10;g2-,g2-").least(), 0);
        due("one", made("10;g1-,p0-").least(), 2);
        due("two", made("10;g1-,g1-").least(), 3);
        due("all eight", made("10;g7-,g7-,g7-,g7-,g7-,g7-,g7-,g7-").least(), 255);
        due("none, though all would", made("10;g8-,g8-,g8-,g8-,g8-,g8-,g8-,g8-").least(), 0);
        due("the last alone", made("10;g7-,g7-,g7-,g7-,g7-,g7-,g7-,g0-").least(), 128);
        GrangeParty x = made("10;p0-,p0-");
        x.rise(3);
        due("nobody is here", x.least(), 0);
        x.back(1);
        due("one is back", x.least(), 2);
    }

    private static void leastOfLike() {
        sentence(15, "of like ones the least");
        due("of all pairs", made("10;g1-,g1-,g1-,g1-").least(), 3);
        due("of pairs without the first", made("10;g9-,g1-,g1-,g1-").least(), 6);
        due("fewer goes ahead of less", made("10;g1-,g1-,g1-,g0-").least(), 8);
        due("of two alone", made("10;g9-,p0-,h9-,p0-").least(), 2);
        due("friends bind", made("10;g1-,g1-,g10,g11").least(), 3);
        due("of threes", made("10;g2-,g9-,g2-,g2-,g2-").least(), 13);
    }

    private static void hired(String text, int which) {
        GrangeParty x = made(text);
        due(text + " which", x.hire(1), which);
        due(text + " how many", x.hire(0), Integer.bitCount(which));
    }

    private static void hireNoneAndAll() {
        sentence(16, "how many; which, as bits: of like ones the least");
        hired("10;p0-,p0-", 0);
        hired("10;g1-,g1-", 0);
        hired("10;h0-,h0-", 3);
        hired("10;h9-,h9-,h9-,h9-,h9-,h9-,h9-,h9-", 255);
        hired("10;g7-,g7-,g7-,g7-,g7-,g7-,g7-,g7-", 0);
        GrangeParty x = made("10;p0-,p0-");
        x.rise(3);
        due("nobody is here, how many", x.hire(0), 0);
        due("nobody is here, which", x.hire(1), 0);
        for (int what : new int[] {LOW, -1, 2, HIGH}) {
            due("what " + what, x.hire(what), OUTSIDE);
        }
    }

    private static void hireAtTheEdge() {
        sentence(16, "the fewest, so that all who are HERE can RISE together then");
        hired("10;g3-,g2-,c7-,h1-", 0);
        hired("10;g4-,g2-,c7-,h1-", 1);
        hired("10;g3-,g2-,c7-,h2-", 8);
        hired("10;g3-,g2-,c8-,h2-", 12);
        hired("10;g4-,g5-,k9-,h2-", 2);
        hired("10;g9-,p00,p01", 1);
        GrangeParty x = made("10;g9-,g3-,p0-,p0-,p0-");
        x.rise(28);
        due("the gone count", x.hire(1), 1);
        x.back(4);
        due("who is here counts", x.hire(1), 1);
        x.turn(1, 2, 3);
        due("a host", x.hire(1), 3);
        due("nobody is made pale", x.guest(0, 0), 0);
    }

    private static void endsAtOnceAndNever() {
        sentence(17, "behind how few HOURS (0 to 60) nobody is HERE; none");
        GrangeParty x = made("99;p0-,p0-");
        due("in one hour", x.ends(), 1);
        x.rise(3);
        due("at once", x.ends(), 0);
        due("never", made("00;h0-,h0-").ends(), NONE);
        due("a friend never", made("00;h9-,p00").ends(), NONE);
        for (int food = 51; food <= 62; food++) {
            x = made("" + food / 10 + food % 10 + ";g2-,p0-");
            x.rise(2);
            due("by food " + food, x.ends(), food <= 60 ? food : NONE);
        }
        x = made("52;g9-,g9-");
        x.turn(1, 3, 0);
        x.rise(2);
        due("by 52 and eight less", x.ends(), 59);
        x.feed(1);
        due("by 53 and eight less", x.ends(), 60);
        x.feed(1);
        due("by 54 and eight less", x.ends(), NONE);
    }

    private static void endsByHours() {
        sentence(17, "if nothing is done but that HOURS go by");
        String[] texts = {"07;g2-,g3-,c50,h0-", "60;g9-,g8-,p0-", "99;g5-,g5-,c9-,h3-,g42", "20;g1-,g10,h0-", "99;g9-,k0-"};
        for (String text : texts) {
            GrangeParty x = made(text);
            int told = x.ends();
            int hours = 0;
            while (hours < 61 && x.count(1) > 0) {
                x.hour();
                hours++;
            }
            due(text, told, hours <= 60 ? hours : NONE);
        }
    }

    private static void fraction(String call, GrangeParty x, int guest, int tenths, int above, int below) {
        due(call + ", above", x.odds(guest, tenths, 0), above);
        due(call + ", below", x.odds(guest, tenths, 1), below);
    }

    private static void oddsTenths() {
        sentence(18, "tenths (0 to 10)");
        GrangeParty x = made("10;g1-,g1-,g9-");
        int[] above = {1, 9, 4, 7, 3, 1, 2, 3, 1, 1, 0};
        int[] below = {1, 10, 5, 10, 5, 2, 5, 10, 5, 10, 1};
        for (int tenths = 0; tenths <= 10; tenths++) {
            fraction("tenths " + tenths, x, 0, tenths, above[tenths], below[tenths]);
            fraction("never, tenths " + tenths, x, 2, tenths, 0, 1);
        }
        for (int tenths : new int[] {LOW, -1, 11, 12, 256, HIGH}) {
            due("tenths " + tenths, x.odds(0, tenths, 0), OUTSIDE);
            due("tenths " + tenths, x.odds(0, tenths, 1), OUTSIDE);
        }
        x = made("10;p0-,p00");
        fraction("he himself does not sleep", x, 0, 10, 1, 1);
        fraction("his friend does", x, 1, 10, 0, 1);
        x.rise(1);
        fraction("nobody else is here", x, 1, 10, 1, 1);
        fraction("nobody else is here, none sleeps", x, 1, 0, 1, 1);
        x = made("10;g1-,p0-");
        x.rise(2);
        fraction("the gone do not sleep", x, 0, 10, 1, 1);
    }

    private static void oddsLowestTerms() {
        sentence(18, "in lowest terms (0 of 1)");
        GrangeParty x = made("10;g7-,p0-,p0-,p0-,p0-,p0-,p0-,p0-");
        fraction("nine to the seventh", x, 0, 1, 4782969, 10000000);
        fraction("one of ten to the seventh", x, 0, 9, 1, 10000000);
        fraction("seven to the seventh", x, 0, 3, 823543, 10000000);
        fraction("one of two to the seventh", x, 0, 5, 1, 128);
        fraction("four of five, to the seventh", x, 0, 2, 16384, 78125);
        fraction("certain", x, 0, 0, 1, 1);
        fraction("never", x, 0, 10, 0, 1);
        fraction("a pale one", x, 7, 9, 1, 1);
        x.hint(0);
        // Six of seven or more: nine to the seventh, and seven times nine to the sixth.
        fraction("six of seven", x, 0, 1, 8503056 / 16, 10000000 / 16);
        x = made("10;g8-,p0-,p0-,p0-,p0-,p0-,p0-,p0-");
        fraction("too shy", x, 0, 0, 0, 1);
    }

    private static void oddsWhat() {
        sentence(18, "what = 0 above, 1 below");
        GrangeParty x = made("10;g1-,g1-");
        due("above", x.odds(0, 4, 0), 3);
        due("below", x.odds(0, 4, 1), 5);
        for (int what : new int[] {LOW, -1, 2, HIGH}) {
            due("what " + what, x.odds(0, 4, what), OUTSIDE);
        }
    }

    // ---- what is seen

    private static void seeOthers() {
        sentence(19, "OUTSIDE: others (0 to 16)");
        for (int others = -20; others <= 40; others++) {
            GrangeParty x = made("10;g0-,g0-");
            boolean in = others >= 0 && others <= 16;
            due("others " + others, x.see(0, others, true), in ? 1 : OUTSIDE);
            due("others " + others + ", not", x.see(1, others, false), in ? 2 : OUTSIDE);
            due("seen", x.count(7), in ? 2 : 0);
        }
        GrangeParty x = made("10;g0-,g0-");
        for (int others : new int[] {LOW, 256, 65536, HIGH}) {
            due("others " + others, x.see(0, others, true), OUTSIDE);
        }
    }

    private static void seeSixAtMost() {
        sentence(19, "SEEN (6 at most); FULL");
        GrangeParty x = made("10;g0-,p0-");
        x.rise(2);
        for (int n = 1; n <= 6; n++) {
            due("see " + n, x.see(n % 2, 4, true), n);
        }
        due("see 7", x.see(0, 4, true), FULL);
        due("see 7, of another", x.see(1, 3, false), FULL);
        due("seen", x.count(7), 6);
        due("as it was", x.guest(0, 6), 31);
        due("forget", x.forget(), 6);
        due("see 1, anew", x.see(0, 0, true), 1);
        due("only that", x.guest(0, 6), 1);
    }

    private static void forgetNoneAndSix() {
        sentence(20, "Nothing is SEEN any more: how much was");
        GrangeParty x = new GrangeParty();
        due("no party", x.forget(), 0);
        x = made("10;g0-,g0-");
        due("nothing", x.forget(), 0);
        for (int n = 1; n <= 6; n++) {
            for (int i = 0; i < n; i++) {
                x.see(i % 2, 0, false);
            }
            due("forget " + n, x.forget(), n);
            due("seen", x.count(7), 0);
            due("shyness", x.guest(0, 6), 1023);
            due("again", x.forget(), 0);
        }
    }

    private static void nightsBounds() {
        sentence(21, "OUTSIDE: times (1 to 60), seed (0 at least), what");
        GrangeParty x = made("99;h9-,h9-");
        int[] in = {1, 2, 59, 60};
        for (int times : in) {
            due("times " + times, x.nights(times, 1, 0), 0);
        }
        for (int times : new int[] {LOW, -1, 0, 61, 62, HIGH}) {
            due("times " + times, x.nights(times, 1, 0), OUTSIDE);
        }
        for (int seed : new int[] {0, 1, HIGH - 1, HIGH}) {
            due("seed " + seed, x.nights(1, seed, 0), 0);
        }
        for (int seed : new int[] {LOW, LOW + 1, -2, -1}) {
            due("seed " + seed, x.nights(1, seed, 0), OUTSIDE);
        }
        for (int what : new int[] {LOW, -1, 3, HIGH}) {
            due("what " + what, x.nights(1, 1, what), OUTSIDE);
        }
    }

    /** A seed and its draws, as the document's words say it, in numbers that do not wrap. */
    private static final class Draws {
        BigInteger seed;

        Draws(int seed) {
            this.seed = BigInteger.valueOf(seed);
        }

        int of(int many) {
            seed = seed.multiply(BigInteger.valueOf(1103515245)).add(BigInteger.valueOf(12345))
                    .mod(BigInteger.TWO.pow(31));
            return seed.divide(BigInteger.valueOf(65536)).mod(BigInteger.valueOf(many)).intValueExact();
        }
    }

    private static void nightsSeeds() {
        sentence(21, "1103515245 times it and 12345, its rest by 2 to the 31");
        GrangeParty x = made("99;h9-,h9-,h9-");
        for (int seed : new int[] {0, 1, 2, 3, 65535, 65536, 1 << 30, HIGH - 2, HIGH - 1, HIGH}) {
            for (int times = 1; times <= 4; times++) {
                Draws draws = new Draws(seed);
                int hours = 0;
                for (int i = 0; i < times; i++) {
                    if (draws.of(3) == 0) {
                        draws.of(3);
                    } else {
                        hours++;
                    }
                }
                due("seed " + seed + ", " + times, x.nights(times, seed, 2), draws.seed.intValueExact());
                due("seed " + seed + ", " + times + ", food", x.nights(times, seed, 1), 99 - 3 * hours);
            }
        }
        due("by hand, seed 0", x.nights(1, 0, 2), 1406932606);
        due("by hand, seed 1", x.nights(1, 1, 2), 1103527590);
    }

    private static void nightsAsIfDone() {
        sentence(21, "how many are GONE in the end; how much FOOD there is");
        String[] texts = {"07;g2-,g3-,c50,h0-", "99;g9-,g8-,p0-", "30;g5-,g5-,c9-,h3-,g42", EIGHT, "00;k9-,h9-"};
        int[] times = {1, 2, 20, 59, 60};
        for (String text : texts) {
            for (int i = 0; i < times.length; i++) {
                int seed = 7919 * (i + 1);
                GrangeParty x = made(text);
                x.rise(x.least());
                String call = text + " " + times[i] + " times by " + seed;
                int gone = x.nights(times[i], seed, 0);
                int food = x.nights(times[i], seed, 1);
                int last = x.nights(times[i], seed, 2);
                Draws draws = new Draws(seed);
                for (int time = 0; time < times[i]; time++) {
                    if (draws.of(3) == 0) {
                        x.hint(draws.of(x.count(0)));
                    } else {
                        x.hour();
                    }
                }
                due(call + ", gone", gone, x.count(0) - x.count(1));
                due(call + ", food", food, x.count(2));
                due(call + ", seed", last, draws.seed.intValueExact());
            }
        }
    }

    private static void nightsHintToTheGone() {
        sentence(21, "is given a HINT (nothing comes of it, if he is GONE)");
        // Seed 0 gives a hint to guest 0 of two, then an hour goes by.
        GrangeParty x = made("99;g1-,h9-");
        due("he is here, and goes", x.nights(2, 0, 0), 1);
        x.turn(0, 3, 1);
        x.rise(1);
        due("he is gone", x.nights(1, 0, 0), 1);
        due("he is gone, food", x.nights(1, 0, 1), 99);
        due("he is gone, the seed goes on", x.nights(1, 0, 2), 1406932606);
        due("he stays as shy", x.guest(0, 1), 1);
    }

    // ---- what is told of all

    private static void imageLatest() {
        sentence(22, "An IMAGE is kept (one; the latest): how many HOURS there were");
        GrangeParty x = made("99;h9-,h9-");
        due("at first", x.image(), 0);
        x.hour();
        due("behind an hour", x.image(), 1);
        x.hour();
        x.hour();
        due("of the latest", x.restore(), 1);
        due("hours", x.count(3), 1);
        x.hint(0);
        due("again", x.restore(), 1);
        due("as shy as then", x.guest(0, 1), 9);
        due("kept anew", x.image(), 1);
    }

    private static void imageKeeps() {
        sentence(22, "An IMAGE keeps KINDS, how SHY all are, who is HERE, FOOD, HOURS, SEEN");
        GrangeParty x = made("50;g5-,p5-,h50,k5-");
        x.rise(2);
        x.hour();
        x.see(0, 3, false);
        x.see(2, 9, true);
        due("image", x.image(), 1);
        long before = x.digest();
        x.turn(0, 4, 5);
        due("another kind", x.restore(), 1);
        due("kinds", x.digest(), before);
        x.hint(2);
        x.restore();
        due("how shy", x.digest(), before);
        x.turn(1, 3, 9);
        x.restore();
        due("how shy one is who is gone", x.digest(), before);
        x.back(1);
        x.restore();
        due("who is here", x.digest(), before);
        x.feed(9);
        x.restore();
        due("food", x.digest(), before);
        x.hour();
        x.restore();
        due("hours", x.digest(), before);
        x.see(0, 5, true);
        x.restore();
        due("one more seen", x.digest(), before);
        x.forget();
        x.see(1, 1, true);
        x.see(1, 2, true);
        x.restore();
        due("others seen", x.digest(), before);
        x.letter(65);
        x.restore();
        due("the page is not kept", x.blank(), 1);
        due("all as it was", x.digest(), before);
    }

    private static void restoreNone() {
        sentence(23, "STATE: none was kept");
        GrangeParty x = new GrangeParty();
        due("no party", x.restore(), STATE);
        due("no image without one", x.image(), STATE);
        due("still none", x.restore(), STATE);
        write(x, "10;g0-,g0-");
        x.party();
        due("a new party", x.restore(), STATE);
        x.hour();
        due("behind an hour", x.restore(), STATE);
        due("image", x.image(), 1);
        due("kept", x.restore(), 1);
    }

    private static void restoreSinceRead() {
        sentence(23, "or a PARTY was read since (of the same text, too)");
        GrangeParty x = made("10;g0-,g0-");
        x.image();
        write(x, "10;g0-,g0");
        due("not yet one", x.party(), STATE);
        due("so it is kept", x.restore(), 0);
        x.letter('-');
        due("written, not read", x.restore(), 0);
        due("read", x.party(), 2);
        due("of the same text", x.restore(), STATE);
        due("image", x.image(), 0);
        write(x, "20;h0-,h0-,h0-");
        due("read another", x.party(), 3);
        due("of another text", x.restore(), STATE);
        due("read three times", x.count(9), 3);
    }

    private static void countBounds() {
        sentence(24, "How many: 0 GUESTS .. 9 how often a PARTY was read. OUTSIDE");
        GrangeParty x = made("10;g0-,g0-");
        for (int what : new int[] {LOW, -1, 10, 11, 256, HIGH}) {
            due("what " + what, x.count(what), OUTSIDE);
            due("no party, what " + what, new GrangeParty().count(what), OUTSIDE);
        }
    }

    private static void countEmptyAndFull() {
        sentence(24, "How many, with none and with all");
        GrangeParty x = new GrangeParty();
        for (int what = 0; what <= 9; what++) {
            due("nothing, " + what, x.count(what), 0);
        }
        write(x, "99;k9-,k9-,k9-,k9-,k9-,k9-,k9-,k9-");
        x.party();
        write(x, TEXT_OF_36);
        for (int i = 0; i < 6; i++) {
            x.see(i, i, true);
        }
        int[] full = {8, 8, 99, 0, 72, 0, 8, 6, 36, 1};
        for (int what = 0; what <= 9; what++) {
            due("all here, " + what, x.count(what), full[what]);
        }
        x.rise(255);
        int[] gone = {8, 0, 99, 0, 0, 16, 0, 6, 36, 1};
        for (int what = 0; what <= 9; what++) {
            due("all gone, " + what, x.count(what), gone[what]);
        }
        x = made("10;g1-,p0-,p01,g0-,h0-");
        due("by himself: just who needs none, and no friend", x.count(6), 2);
        x.rise(2);
        due("by himself: one is gone", x.count(6), 3);
    }

    private static void digestWithoutParty() {
        sentence(25, "with a PARTY (all up to the next semicolon)");
        GrangeParty x = new GrangeParty();
        due("nothing at all", x.digest(), mixed(0, 0, 0, 0, 0, 0, 0, 0, 0, 0));
        write(x, "10;g0-,g0-");
        due("a page alone", x.digest(),
                mixed('1', '0', ';', 'g', '0', '-', ',', 'g', '0', '-', 0, 0, 0, 0, 0, 0, 0, 0, 10, 0));
        x = made("10;p0-,p0-");
        x.rise(3);
        due("all gone: no odds", x.digest(), mixed(
                3, 0, NONE, 0, 0, 1, 1023, 0, NONE,
                3, 0, NONE, 0, 0, 1, 1023, 0, NONE,
                0, 0, 0, 0, 0,
                2, 0, 10, 0, 0, 2, 0, 0, 0, 1));
    }

    /** The numbers of the digest, by the calls that tell them. */
    private static List<Integer> numbersOf(GrangeParty x, String page) {
        List<Integer> numbers = new ArrayList<>();
        for (int guest = 0; guest < x.count(0); guest++) {
            for (int what = 0; what <= 8; what++) {
                numbers.add(x.guest(guest, what));
            }
        }
        numbers.addAll(List.of(x.most(), x.least(), x.hire(0), x.hire(1), x.ends()));
        for (int guest = 0; guest < x.count(0); guest++) {
            if (x.guest(guest, 3) == 1) {
                numbers.add(x.odds(guest, 4, 0));
                numbers.add(x.odds(guest, 4, 1));
            }
        }
        for (char letter : page.toCharArray()) {
            numbers.add((int) letter);
        }
        for (int what = 0; what <= 9; what++) {
            numbers.add(x.count(what));
        }
        return numbers;
    }

    private static void digestWraps() {
        sentence(25, "31 times h, and it (as longs, wrapping)");
        String[] texts = {EIGHT, "10;g0-,g0-", "00;h9-,h90,h91", "99;k9-,p0-,g5-,c8-,g3-"};
        String[] pages = {"", "~", TEXT_OF_36, " "};
        for (String text : texts) {
            for (String page : pages) {
                GrangeParty x = made(text);
                write(x, page);
                x.rise(x.least());
                x.see(0, 4, true);
                BigInteger h = BigInteger.valueOf(1277);
                for (int number : numbersOf(x, page)) {
                    h = h.multiply(BigInteger.valueOf(31)).add(BigInteger.valueOf(number));
                }
                due(text + " with the page " + page, x.digest(), h.longValue());
            }
        }
    }
}
