/** Each promise of the document by hand: ordinary inputs, the edges that it names, and wrong inputs. */
public final class PromisesTest extends PartyTest {
    private static final String EIGHT = "99;g0-,c10,h21,p32,k43,g54,c65,h76";

    public static void main(String[] args) {
        aNewObject();
        letter();
        blank();
        faultAtEachPlace();
        party();
        partyTakesAllThatWas();
        guest();
        guestShynessAndAsk();
        guestHome();
        as();
        rise();
        riseWithFriends();
        hour();
        hourAtTheEdges();
        hint();
        back();
        feed();
        turn();
        most();
        least();
        hire();
        ends();
        odds();
        see();
        forget();
        nights();
        image();
        count();
        digest();
        end("all promises are kept");
    }

    private static void aNewObject() {
        GrangeParty x = new GrangeParty();
        for (int what = 0; what <= 9; what++) {
            due("1 count " + what, x.count(what), 0);
        }
        due("1 guest", x.guest(0, 0), UNKNOWN);
        due("1 guest, what", x.guest(0, 9), UNKNOWN);
        due("1 as", x.as(0, 5), UNKNOWN);
        due("1 rise", x.rise(1), UNKNOWN);
        due("1 rise 0", x.rise(0), UNKNOWN);
        due("1 hint", x.hint(0), UNKNOWN);
        due("1 back", x.back(0), UNKNOWN);
        due("1 turn", x.turn(0, 5, 10), UNKNOWN);
        due("1 odds", x.odds(0, 11, 2), UNKNOWN);
        due("1 see", x.see(0, 17, true), UNKNOWN);
        due("1 hour", x.hour(), STATE);
        due("1 feed", x.feed(1), STATE);
        due("1 feed 0", x.feed(0), OUTSIDE);
        due("1 most", x.most(), STATE);
        due("1 least", x.least(), STATE);
        due("1 hire", x.hire(0), STATE);
        due("1 hire 2", x.hire(2), OUTSIDE);
        due("1 ends", x.ends(), STATE);
        due("1 nights", x.nights(1, 0, 0), STATE);
        due("1 nights 0", x.nights(0, 0, 0), OUTSIDE);
        due("1 image", x.image(), STATE);
        due("1 restore", x.restore(), STATE);
        due("1 party", x.party(), STATE);
        due("1 fault", x.fault(), 0);
        due("1 blank", x.blank(), 0);
        due("1 forget", x.forget(), 0);
        due("1 digest", x.digest(), mixed(0, 0, 0, 0, 0, 0, 0, 0, 0, 0));
    }

    private static void letter() {
        GrangeParty x = new GrangeParty();
        due("2 letter 31", x.letter(31), OUTSIDE);
        due("2 letter 127", x.letter(127), OUTSIDE);
        due("2 letter -1", x.letter(-1), OUTSIDE);
        due("2 letter max", x.letter(Integer.MAX_VALUE), OUTSIDE);
        due("2 letter min", x.letter(Integer.MIN_VALUE), OUTSIDE);
        due("2 letter 48 + 2^16", x.letter(48 + 65536), OUTSIDE);
        due("2 letter 32", x.letter(32), 1);
        due("2 letter 126", x.letter(126), 2);
        for (int n = 3; n <= 36; n++) {
            due("2 letter " + n, x.letter(48), n);
        }
        due("2 letter 37th", x.letter(48), FULL);
        due("2 letter 37th, outside", x.letter(31), OUTSIDE);
        due("2 count", x.count(8), 36);
    }

    private static void blank() {
        GrangeParty x = made("10;g0-,g0-");
        due("3 blank", x.blank(), 0);
        write(x, "abc");
        due("3 blank abc", x.blank(), 3);
        due("3 blank again", x.blank(), 0);
        due("3 count", x.count(8), 0);
        due("3 party stays", x.count(0), 2);
        due("3 letter behind", x.letter(65), 1);
    }

    private static String allowedAt(int place) {
        String digits = "0123456789";
        if (place < 2) {
            return digits;
        }
        if (place == 2) {
            return ";";
        }
        int guest = (place - 3) / 4;
        switch ((place - 3) % 4) {
            case 0:
                return guest < 8 ? "gchpk" : "";
            case 1:
                return digits;
            case 2:
                return "-" + digits.substring(0, guest);
            default:
                return guest < 7 ? "," : "";
        }
    }

    private static void faultAtEachPlace() {
        for (int place = 0; place <= 34; place++) {
            String ahead = EIGHT.substring(0, place);
            for (int code = 32; code <= 126; code++) {
                GrangeParty x = new GrangeParty();
                write(x, ahead);
                due("4 fault, none at " + place, x.fault(), place);
                x.letter(code);
                boolean allowed = allowedAt(place).indexOf(code) >= 0;
                due("4 fault " + place + " " + (char) code, x.fault(), allowed ? place + 1 : place);
                write(x, "~");
                due("4 fault " + place + " " + (char) code + "~", x.fault(), allowed ? place + 1 : place);
                due("4 party " + place + " " + (char) code + "~", x.party(), STATE);
                due("4 page stays", x.blank(), place + 2);
            }
        }
    }

    private static void party() {
        for (int length = 0; length <= 34; length++) {
            GrangeParty x = new GrangeParty();
            write(x, EIGHT.substring(0, length));
            boolean whole = length >= 10 && (length - 2) % 4 == 0;
            due("5 party of " + length, x.party(), whole ? (length - 2) / 4 : STATE);
            due("5 page", x.count(8), whole ? 0 : length);
            due("5 read", x.count(9), whole ? 1 : 0);
        }
        GrangeParty x = made(EIGHT);
        int[] kinds = {0, 1, 2, 3, 4, 0, 1, 2};
        for (int guest = 0; guest < 8; guest++) {
            due("5 kind " + guest, x.guest(guest, 0), kinds[guest]);
            due("5 shy " + guest, x.guest(guest, 1), guest);
            due("5 friend " + guest, x.guest(guest, 2), guest == 0 ? NONE : guest - 1);
            due("5 here " + guest, x.guest(guest, 3), 1);
        }
        due("5 food", x.count(2), 99);
        due("5 food tens", made("70;g0-,g0-").count(2), 70);
        due("5 food ones", made("07;g0-,g0-").count(2), 7);
    }

    private static void partyTakesAllThatWas() {
        GrangeParty x = made("10;g1-,g1-,p0-");
        x.see(0, 1, true);
        x.hour();
        x.image();
        due("5 gone", x.count(1), 0);
        write(x, "10;g1-,g1-,p0");
        due("5 not yet", x.party(), STATE);
        due("5 seen stays", x.count(7), 1);
        due("5 restore still", x.restore(), 1);
        write(x, "-");
        due("5 read anew", x.party(), 3);
        due("5 here", x.count(1), 3);
        due("5 food", x.count(2), 10);
        due("5 hours", x.count(3), 0);
        due("5 seen", x.count(7), 0);
        due("5 page", x.count(8), 0);
        due("5 often", x.count(9), 2);
        due("5 image gone", x.restore(), STATE);
        write(x, "01;p0-,c30");
        due("5 fewer", x.party(), 2);
        due("5 no third", x.guest(2, 0), UNKNOWN);
        due("5 no third bit", x.rise(4), UNKNOWN);
    }

    private static void guest() {
        GrangeParty x = made("10;g5-,c50,h5-,p51,k5-,c42,h0-,g0-");
        int[] needs = {5, 2, 7, 0, 0, 2, 2, 0};
        for (int guest = 0; guest < 8; guest++) {
            due("6 needs " + guest, x.guest(guest, 4), needs[guest]);
            due("6 counts " + guest, x.guest(guest, 5), guest == 4 ? 2 : 1);
        }
        due("6 friend", x.guest(3, 2), 1);
        due("6 no friend", x.guest(4, 2), NONE);
        due("6 rise", x.rise(16), 1);
        due("6 gone", x.guest(4, 3), 0);
        due("6 gone home", x.guest(4, 8), NONE);
        due("6 gone counts", x.guest(4, 5), 2);
        due("6 gone shyness", x.guest(4, 6), 1023);
        due("6 guest 8", x.guest(8, 0), UNKNOWN);
        due("6 guest -1", x.guest(-1, 0), UNKNOWN);
        due("6 guest and what", x.guest(8, 9), UNKNOWN);
        due("6 what 9", x.guest(0, 9), OUTSIDE);
        due("6 what -1", x.guest(0, -1), OUTSIDE);
        due("6 guest max", x.guest(Integer.MAX_VALUE, 0), UNKNOWN);
        due("6 guest min", x.guest(Integer.MIN_VALUE, 0), UNKNOWN);
    }

    private static void guestShynessAndAsk() {
        GrangeParty x = made("10;g5-,c5-,h5-,p5-");
        for (int guest = 0; guest < 4; guest++) {
            due("6 any " + guest, x.guest(guest, 6), 1023);
        }
        // Halves: five of ten are left at best.
        due("6 ask guest", x.guest(0, 7), 4);
        // A clever one by pairs: 4 or 6 of ten.
        due("6 ask clever", x.guest(1, 7), 1);
        due("6 ask host", x.guest(2, 7), 6);
        due("6 ask pale", x.guest(3, 7), 0);
        x.see(0, 6, true);
        x.see(0, 3, false);
        due("6 from 4 to 6", x.guest(0, 6), 112);
        due("6 ask 4 to 6", x.guest(0, 7), 4);
        due("6 other", x.guest(1, 6), 1023);
        x.see(2, 16, false);
        due("6 host never", x.guest(2, 6), 0);
        due("6 ask none", x.guest(2, 7), NONE);
        x.see(3, 0, true);
        due("6 pale always", x.guest(3, 6), 1023);
        x.turn(0, 1, 0);
        due("6 clever as he is", x.guest(0, 6), 768);
        x.turn(0, 2, 0);
        due("6 host as he is", x.guest(0, 6), 28);
        due("6 ask host as he is", x.guest(0, 7), 4);
        x.turn(0, 3, 0);
        due("6 pale as he is", x.guest(0, 6), 0);
    }

    private static void guestHome() {
        GrangeParty x = made("10;g3-,g3-,h0-");
        due("6 home 0", x.guest(0, 8), 2);
        due("6 home 1", x.guest(1, 8), 2);
        due("6 home host, with two", x.guest(2, 8), 2);
        x = made("10;g1-,h0-");
        due("6 home alone", x.guest(0, 8), 1);
        due("6 home of none", x.guest(1, 8), NONE);
        x.hint(0);
        due("6 home at once", x.guest(0, 8), 0);
        // A clever one of 3 needs 1: two hints to need none.
        x = made("10;c3-,h9-");
        due("6 home clever", x.guest(0, 8), 2);
        // The friend must come too: 5 alone, or less by each who goes.
        x = made("10;g5-,p00,p0-,p0-");
        due("6 home of a friend", x.guest(1, 8), 2);
        due("6 home with all", x.guest(0, 8), 2);
        due("6 home pale", x.guest(2, 8), 0);
        x.rise(12);
        due("6 home, gone count", x.guest(1, 8), 2);
        due("6 home of the gone", x.guest(3, 8), NONE);
    }

    private static void as() {
        GrangeParty x = made("10;g0-,c0-,h0-,p0-,k0-");
        String[] such = {"g", "gc", "gh", "gp", "gpk"};
        for (int guest = 0; guest < 5; guest++) {
            for (int kind = 0; kind < 5; kind++) {
                boolean is = such[guest].indexOf("gchpk".charAt(kind)) >= 0;
                due("7 as " + guest + " " + kind, x.as(guest, kind), is ? guest : NONE);
            }
        }
        due("7 guest 5", x.as(5, 0), UNKNOWN);
        due("7 guest -1", x.as(-1, -1), UNKNOWN);
        due("7 kind 5", x.as(0, 5), OUTSIDE);
        due("7 kind -1", x.as(0, -1), OUTSIDE);
        x.turn(0, 4, 0);
        due("7 turned", x.as(0, 3), 0);
    }

    private static void rise() {
        GrangeParty x = made("10;g1-,g1-,g2-,k9-");
        due("8 none", x.rise(0), UNKNOWN);
        due("8 bit 4", x.rise(16), UNKNOWN);
        due("8 bit 4 and others", x.rise(19), UNKNOWN);
        due("8 min", x.rise(Integer.MIN_VALUE), UNKNOWN);
        due("8 alone", x.rise(1), STATE);
        due("8 not the third", x.rise(6), STATE);
        due("8 two", x.rise(3), 2);
        due("8 here", x.count(1), 2);
        due("8 gone again", x.rise(1), STATE);
        due("8 gone with one", x.rise(5), STATE);
        due("8 third behind two", x.rise(4), 1);
        due("8 cough", x.rise(8), 1);
        due("8 all gone", x.count(1), 0);
        x = made("10;g2-,k0-");
        due("8 cough counts 2", x.rise(3), 2);
        x = made("10;g2-,p0-");
        due("8 pale counts 1", x.rise(3), STATE);
        due("8 nothing changed", x.count(1), 2);
    }

    private static void riseWithFriends() {
        GrangeParty x = made("10;p0-,p00,p01");
        due("8 without friend", x.rise(2), STATE);
        due("8 without second", x.rise(5), STATE);
        due("8 friend need not", x.rise(1), 1);
        due("8 friend gone", x.rise(2), 1);
        x.back(0);
        due("8 friend back, his is gone", x.rise(4), 1);
        x = made("10;p0-,p00");
        due("8 with friend", x.rise(3), 2);
    }

    private static void hour() {
        GrangeParty x = made("07;g2-,g1-,h1-");
        due("9 first", x.hour(), 0);
        due("9 food", x.count(2), 4);
        due("9 shy stays", x.count(4), 4);
        due("9 second", x.hour(), 0);
        due("9 food less than all", x.count(2), 1);
        // None is left: 1, 0, host 0; the second goes, then the first, then the host needs 2.
        due("9 third", x.hour(), 3);
        due("9 food none", x.count(2), 0);
        due("9 hours", x.count(3), 3);
        due("9 none here", x.hour(), 0);
        due("9 hours go on", x.count(3), 4);
        due("9 shy first", x.guest(0, 1), 1);
        due("9 shy second", x.guest(1, 1), 0);
    }

    private static void hourAtTheEdges() {
        GrangeParty x = made("02;g1-,g9-");
        due("9 just enough", x.hour(), 1);
        due("9 the gone keep", x.guest(0, 1), 0);
        due("9 the other", x.guest(1, 1), 8);
        x.hour();
        due("9 gone are not less shy", x.guest(0, 1), 0);
        due("9 the other again", x.guest(1, 1), 7);
        x = made("03;g1-,g9-");
        due("9 one left", x.hour(), 0);
        due("9 not less shy", x.guest(0, 1), 1);
        x = made("00;p0-,p00,g3-");
        due("9 friend ahead", x.hour(), 3);
        x = made("50;g1-,p0-,g2-");
        due("9 lower number later", x.hour(), 3);
        x = made("50;h0-,p0-,p01");
        due("9 cannot", x.hour(), 3);
        x = made("50;g9-,p00");
        due("9 friend stays", x.hour(), 0);
        x = made("50;k0-,g2-,g9-");
        due("9 cough gone counts 2", x.hour(), 2);
        x = made("99;g7-,g6-,g5-,g4-,g3-,g2-,g1-,g0-");
        due("9 all eight, the last first", x.hour(), 8);
        x = made("00;g9-,h9-");
        for (int i = 1; i <= 8; i++) {
            x.hour();
        }
        due("9 shy of 9", x.guest(0, 1), 1);
        due("9 goes then", x.hour(), 1);
        x.hour();
        due("9 0 at least", x.guest(1, 1), 0);
        due("9 host stays", x.count(1), 1);
        for (int i = x.count(3); i < 999; i++) {
            x.hour();
        }
        due("9 hours 999", x.count(3), 999);
        due("9 full", x.hour(), FULL);
        due("9 full, hours", x.count(3), 999);
    }

    private static void hint() {
        GrangeParty x = made("10;g2-,p1-");
        due("10 hint", x.hint(0), 1);
        due("10 again", x.hint(0), 0);
        due("10 0 at least", x.hint(0), 0);
        due("10 pale", x.hint(1), 0);
        due("10 unknown", x.hint(2), UNKNOWN);
        due("10 unknown -1", x.hint(-1), UNKNOWN);
        x.turn(0, 0, 5);
        x.turn(1, 3, 5);
        due("10 rise", x.rise(2), 1);
        due("10 gone", x.hint(1), STATE);
        due("10 nothing changed", x.guest(1, 1), 5);
    }

    private static void back() {
        GrangeParty x = made("10;p0-,p0-,g2-");
        due("11 here", x.back(0), STATE);
        due("11 unknown", x.back(3), UNKNOWN);
        due("11 unknown -1", x.back(-1), UNKNOWN);
        x.rise(7);
        due("11 first", x.back(2), 1);
        due("11 second", x.back(0), 2);
        due("11 again", x.back(0), STATE);
        due("11 here then", x.guest(0, 3), 1);
        due("11 counts no more", x.count(5), 1);
        due("11 cannot now", x.rise(4), STATE);
    }

    private static void feed() {
        GrangeParty x = made("40;p0-,p0-");
        due("12 0", x.feed(0), OUTSIDE);
        due("12 51", x.feed(51), OUTSIDE);
        due("12 -1", x.feed(-1), OUTSIDE);
        due("12 max", x.feed(Integer.MAX_VALUE), OUTSIDE);
        due("12 50", x.feed(50), 90);
        due("12 10", x.feed(10), FULL);
        due("12 9", x.feed(9), 99);
        due("12 1", x.feed(1), FULL);
        due("12 51 when full", x.feed(51), OUTSIDE);
        due("12 food", x.count(2), 99);
    }

    private static void turn() {
        GrangeParty x = made("10;g1-,k2-");
        due("13 unknown", x.turn(2, 5, 10), UNKNOWN);
        due("13 unknown -1", x.turn(-1, 0, 0), UNKNOWN);
        due("13 kind 5", x.turn(0, 5, 0), OUTSIDE);
        due("13 kind -1", x.turn(0, -1, 0), OUTSIDE);
        due("13 shy 10", x.turn(0, 0, 10), OUTSIDE);
        due("13 shy -1", x.turn(0, 0, -1), OUTSIDE);
        due("13 nothing changed", x.guest(0, 1), 1);
        due("13 to host", x.turn(0, 2, 9), 0);
        due("13 kind", x.guest(0, 0), 2);
        due("13 shy", x.guest(0, 1), 9);
        due("13 needs", x.guest(0, 4), 11);
        due("13 same kind", x.turn(0, 2, 3), 2);
        due("13 cough goes", x.rise(2), 1);
        due("13 gone", x.turn(1, 1, 0), 4);
        due("13 gone counts less", x.count(5), 1);
        due("13 still gone", x.guest(1, 3), 0);
    }

    private static void most() {
        due("14 all", made("10;g1-,g1-").most(), 3);
        due("14 none", made("10;g2-,g1-").most(), 0);
        due("14 without the shy", made("10;g9-,g1-,g1-,p0-").most(), 14);
        due("14 one after another drops", made("10;g9-,g2-,g2-,g3-,p00").most(), 0);
        due("14 each drops in turn", made("10;g8-,g7-,g6-,g5-,g4-,g3-,g2-,g1-").most(), 0);
        due("14 each but the last", made("10;g8-,g7-,g6-,g5-,g4-,g3-,g2-,g0-").most(), 128);
        due("14 friend stays", made("10;g9-,p00,p0-").most(), 4);
        GrangeParty x = made("10;g1-,g1-,g3-");
        x.rise(3);
        due("14 gone count", x.most(), 0);
        x.hint(2);
        due("14 gone count, by a hint", x.most(), 4);
        due("14 most", x.count(1), 1);
        x.rise(4);
        due("14 nobody here", x.most(), 0);
    }

    private static void least() {
        due("15 two", made("10;g1-,g1-,g1-").least(), 3);
        due("15 one, though later", made("10;g1-,g1-,p0-").least(), 4);
        due("15 least of like", made("10;g1-,p0-,p0-").least(), 2);
        due("15 the first", made("10;p0-,g1-,p0-").least(), 1);
        due("15 none", made("10;g2-,g2-").least(), 0);
        due("15 with friend", made("10;g1-,g1-,p01").least(), 3);
        due("15 three", made("10;g9-,g2-,g2-,g2-").least(), 14);
        GrangeParty x = made("10;p0-,g1-");
        x.rise(1);
        due("15 gone count", x.least(), 2);
        x.rise(2);
        due("15 nobody here", x.least(), 0);
    }

    private static void hire() {
        GrangeParty x = made("10;g9-,g2-,h0-,g3-");
        due("16 how many", x.hire(0), 1);
        due("16 which", x.hire(1), 1);
        due("16 what 2", x.hire(2), OUTSIDE);
        due("16 what -1", x.hire(-1), OUTSIDE);
        due("16 nothing changed", x.guest(0, 0), 0);
        x = made("10;g9-,h3-,p9-,c9-,g40");
        due("16 three", x.hire(0), 2);
        due("16 which three", x.hire(1), 3);
        x.rise(4);
        due("16 gone count", x.hire(1), 3);
        x = made("10;g2-,k0-,g4-");
        due("16 cough helps", x.hire(1), 4);
        x.rise(2);
        due("16 cough gone helps", x.hire(1), 4);
        x = made("10;p0-,p0-");
        due("16 none", x.hire(0), 0);
        due("16 none, which", x.hire(1), 0);
    }

    private static void ends() {
        GrangeParty x = made("04;g1-,g2-");
        // One hour with food, one with just enough, then one less shy each: the first goes by the second hour.
        due("17 ends", x.ends(), 2);
        due("17 nothing changed", x.count(3), 0);
        due("17 food stays", x.count(2), 4);
        x.hour();
        due("17 an hour on", x.ends(), 1);
        x.hour();
        due("17 at once", x.ends(), 0);
        due("17 never", made("00;h0-,h0-").ends(), NONE);
        due("17 in one", made("99;p0-,p0-").ends(), 1);
        x = made("99;g9-,h9-");
        x.turn(1, 3, 0);
        x.rise(2);
        // 99 hours with one here.
        due("17 beyond 60", x.ends(), NONE);
        x = made("60;g2-,p0-");
        x.rise(2);
        due("17 at 60", x.ends(), 60);
        x.feed(1);
        due("17 at 61", x.ends(), NONE);
    }

    private static void odds() {
        GrangeParty x = made("10;g1-,g1-,g9-,p0-");
        // He goes unless 1 and 3 both sleep, and 1 with him only needs one: 1 - 1/4.
        due("18 above", x.odds(0, 5, 0), 3);
        due("18 below", x.odds(0, 5, 1), 4);
        due("18 none sleeps", x.odds(0, 0, 0), 1);
        due("18 none sleeps, below", x.odds(0, 0, 1), 1);
        due("18 all sleep", x.odds(0, 10, 0), 0);
        due("18 all sleep, below", x.odds(0, 10, 1), 1);
        due("18 pale", x.odds(3, 10, 0), 1);
        due("18 pale, below", x.odds(3, 7, 1), 1);
        due("18 tenths 4", x.odds(0, 4, 0), 21);
        due("18 tenths 4, below", x.odds(0, 4, 1), 25);
        due("18 never", x.odds(2, 3, 0), 0);
        due("18 never, below", x.odds(2, 3, 1), 1);
        due("18 unknown", x.odds(4, 11, 2), UNKNOWN);
        due("18 unknown -1", x.odds(-1, 0, 0), UNKNOWN);
        due("18 tenths 11", x.odds(0, 11, 0), OUTSIDE);
        due("18 tenths -1", x.odds(0, -1, 0), OUTSIDE);
        due("18 what 2", x.odds(0, 0, 2), OUTSIDE);
        due("18 what -1", x.odds(0, 0, -1), OUTSIDE);
        x.rise(8);
        due("18 gone", x.odds(3, 0, 0), STATE);
        due("18 gone, outside", x.odds(3, 11, 0), OUTSIDE);
        due("18 gone counts", x.odds(0, 10, 0), 1);
        x = made("10;g7-,p0-,p0-,p0-,p0-,p0-,p0-,p0-");
        due("18 all of seven", x.odds(0, 1, 0), 4782969);
        due("18 all of seven, below", x.odds(0, 1, 1), 10000000);
        // Of 1000: 512 that all three are awake, and 384 that one of them sleeps.
        x = made("10;g2-,p0-,p0-,p0-");
        due("18 two of three", x.odds(0, 2, 0), 112);
        due("18 two of three, below", x.odds(0, 2, 1), 125);
        x = made("10;g2-,p0-,p0-");
        due("18 by 2 alone", x.odds(0, 3, 0), 49);
        due("18 by 2 alone, below", x.odds(0, 3, 1), 100);
        x = made("10;g1-,p0-,h9-");
        due("18 by tens", x.odds(0, 3, 0), 7);
        due("18 by tens, below", x.odds(0, 3, 1), 10);
        x = made("10;p0-,p00");
        due("18 friend sleeps, by 2", x.odds(1, 4, 0), 3);
        due("18 friend sleeps, by 2, below", x.odds(1, 4, 1), 5);
        due("18 friend sleeps", x.odds(1, 3, 0), 7);
        due("18 friend sleeps, below", x.odds(1, 3, 1), 10);
    }

    private static void see() {
        GrangeParty x = made("10;g5-,c5-");
        due("19 unknown", x.see(2, 17, true), UNKNOWN);
        due("19 unknown -1", x.see(-1, 0, true), UNKNOWN);
        due("19 17", x.see(0, 17, true), OUTSIDE);
        due("19 -1", x.see(0, -1, true), OUTSIDE);
        due("19 0", x.see(0, 0, false), 1);
        due("19 16", x.see(0, 16, true), 2);
        due("19 as seen", x.guest(0, 6), 1022);
        due("19 the same again", x.see(0, 16, true), 3);
        due("19 fourth", x.see(1, 3, false), 4);
        x.rise(1);
        due("19 of one", x.see(1, 4, true), 5);
        due("19 sixth", x.see(1, 4, true), 6);
        due("19 full", x.see(1, 4, true), FULL);
        due("19 full, outside", x.see(1, 17, true), OUTSIDE);
        due("19 full, unknown", x.see(2, 17, true), UNKNOWN);
        due("19 clever", x.guest(1, 6), 768);
        due("19 known shy stays", x.guest(1, 1), 5);
        x = made("10;p0-,g30");
        x.rise(1);
        due("19 of one who is gone", x.see(0, 0, false), 1);
        due("19 pale would", x.guest(0, 6), 0);
    }

    private static void forget() {
        GrangeParty x = made("10;g5-,c5-");
        due("20 nothing", x.forget(), 0);
        x.see(0, 0, false);
        x.see(1, 0, false);
        due("20 two", x.forget(), 2);
        due("20 again", x.forget(), 0);
        due("20 any", x.guest(0, 6), 1023);
        due("20 see anew", x.see(0, 9, true), 1);
        due("20 as seen anew", x.guest(0, 6), 1023);
    }

    private static void nights() {
        GrangeParty x = made("20;g3-,g4-");
        due("21 times 0", x.nights(0, 1, 0), OUTSIDE);
        due("21 times 61", x.nights(61, 1, 0), OUTSIDE);
        due("21 seed -1", x.nights(1, -1, 0), OUTSIDE);
        due("21 what 3", x.nights(1, 1, 3), OUTSIDE);
        due("21 what -1", x.nights(1, 1, -1), OUTSIDE);
        // Seed 0: 12345, by 65536 0, so a hint; then 1406932606, which by 65536 is 21468: guest 0.
        due("21 seed 0, hint", x.nights(1, 0, 2), 1406932606);
        due("21 seed 0, food", x.nights(1, 0, 1), 20);
        due("21 seed 0, gone", x.nights(1, 0, 0), 0);
        // Seed 1: 1103527590, by 65536 16838, of 3 it is 2: an hour.
        due("21 seed 1, hour", x.nights(1, 1, 2), 1103527590);
        due("21 seed 1, food", x.nights(1, 1, 1), 18);
        due("21 nothing changed", x.count(2), 20);
        due("21 nothing changed, hours", x.count(3), 0);
        due("21 nothing changed, shy", x.count(4), 7);
        due("21 the same again", x.nights(60, 5, 2), x.nights(60, 5, 2));
        x = made("99;g1-,h9-");
        x.nights(1, 0, 0);
        due("21 hint is not given", x.guest(0, 1), 1);
        // Seed 0 gives guest 0 a hint; 654583775 by 65536 is 9988, of 3 it is 1: an hour, in which he goes.
        due("21 a hint, then an hour", x.nights(2, 0, 0), 1);
        due("21 a hint, then an hour, food", x.nights(2, 0, 1), 97);
        due("21 a hint, then an hour, seed", x.nights(2, 0, 2), 654583775);
        x.turn(1, 3, 0);
        x.rise(2);
        x.rise(1);
        due("21 all are gone", x.nights(60, 3, 0), 2);
        due("21 nobody eats", x.nights(60, 3, 1), 99);
    }

    private static void image() {
        GrangeParty x = made("10;g5-,c5-,p0-");
        due("23 none kept", x.restore(), STATE);
        x.see(0, 3, false);
        x.hint(0);
        due("22 image", x.image(), 0);
        long before = x.digest();
        due("22 hour", x.hour(), 1);
        x.turn(1, 4, 9);
        x.hint(0);
        x.feed(20);
        x.see(1, 3, false);
        x.see(0, 0, true);
        due("23 restore", x.restore(), 0);
        due("23 all as it was", x.digest(), before);
        x.forget();
        x.see(2, 9, true);
        x.letter(65);
        due("23 restore again", x.restore(), 0);
        due("23 seen", x.guest(0, 6), 1008);
        due("23 page stays", x.blank(), 1);
        x.hour();
        x.hour();
        due("22 the latest", x.image(), 2);
        x.hour();
        due("23 of the latest", x.restore(), 2);
        due("23 hours", x.count(3), 2);
        write(x, "10;g5-,c5-,p0-");
        due("23 until it is read", x.restore(), 2);
        x.party();
        due("23 of the same text", x.restore(), STATE);
        due("22 anew", x.image(), 0);
        due("23 anew", x.restore(), 0);
    }

    private static void count() {
        GrangeParty x = made("55;g1-,k7-,p30,h0-");
        write(x, "abc");
        x.see(0, 1, true);
        x.rise(2);
        int[] before = {4, 3, 55, 0, 4, 2, 2, 1, 3, 1};
        for (int what = 0; what <= 9; what++) {
            due("24 count " + what, x.count(what), before[what]);
        }
        due("24 hour", x.hour(), 3);
        int[] behind = {4, 0, 52, 1, 0, 5, 0, 1, 3, 1};
        for (int what = 0; what <= 9; what++) {
            due("24 count then " + what, x.count(what), behind[what]);
        }
        due("24 what 10", x.count(10), OUTSIDE);
        due("24 what -1", x.count(-1), OUTSIDE);
    }

    private static void digest() {
        GrangeParty x = new GrangeParty();
        write(x, "A~");
        due("25 page alone", x.digest(), mixed(65, 126, 0, 0, 0, 0, 0, 0, 0, 0, 2, 0));
        x.blank();
        write(x, "10;g1-,c90");
        x.party();
        x.letter(66);
        // The clever one needs 4, and his friend: 6 hints bring him to 3, where he needs 1; the first needs one hint.
        // It ends by 10 hours: they eat for five, the first goes in the fifth, and the other is 3 in the tenth.
        due("25 digest", x.digest(), mixed(
                0, 1, NONE, 1, 1, 1, 1023, 4, 1,
                1, 9, 0, 1, 4, 1, 1023, 1, 6,
                0, 0, 1, 2, 10, 0, 1, 0, 1,
                66,
                2, 2, 10, 0, 10, 0, 0, 0, 1, 1));
        x.turn(0, 0, 0);
        x.turn(1, 1, 2);
        // The first goes in an hour, and the other, who needs one, behind him; now only if he does not sleep.
        due("25 digest, odds", x.digest(), mixed(
                0, 0, NONE, 1, 0, 1, 1023, 4, 0,
                1, 2, 0, 1, 1, 1, 1023, 1, 0,
                3, 1, 0, 0, 1, 1, 1, 3, 5,
                66,
                2, 2, 10, 0, 2, 0, 1, 0, 1, 1));
        x.turn(1, 3, 9);
        x.turn(0, 4, 0);
        due("25 one goes", x.rise(1), 1);
        due("25 digest, one gone", x.digest(), mixed(
                4, 0, NONE, 0, 0, 2, 1023, 0, NONE,
                3, 9, 0, 1, 0, 1, 1023, 0, 0,
                2, 2, 0, 0, 1, 1, 1,
                66,
                2, 1, 10, 0, 9, 2, 1, 0, 1, 1));
    }
}
